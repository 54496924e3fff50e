/-! the saved states on both sides -/
abbrev GVR (g : GV) (sa : Nat → Int32) (B : Nat) : Prop := GR g.1 g.2.1 g.2.2.1 g.2.2.2.1 g.2.2.2.2.1 g.2.2.2.2.2.1 g.2.2.2.2.2.2.1 g.2.2.2.2.2.2.2.1 g.2.2.2.2.2.2.2.2.1 g.2.2.2.2.2.2.2.2.2.1 g.2.2.2.2.2.2.2.2.2.2 sa B
abbrev GVZ (g : GV) : Prop := GZ g.1 g.2.1 g.2.2.2.1 g.2.2.2.2.1
def HI (yc : Int32) (yp : Nat → Nat) (yg : Nat → GV) (sv : Nat → Int32) (sm : Int32) (B : Nat) : Prop :=
  ∃ c, c ≤ 4 ∧ yc = nI c ∧ sm = nI c ∧ (∀ i, i < 4 → yp i < 4) ∧ (∀ i j, i < 4 → j < 4 → yp i = yp j → i = j) ∧ (∀ j, j < 4 → GVZ (yg j)) ∧ ∀ i, i < c → GVR (yg (yp i)) (fun q => sv (378 * i + q)) B
theorem HI.mono {yc : Int32} {yp : Nat → Nat} {yg : Nat → GV} {sv : Nat → Int32} {sm : Int32} {B B' : Nat} (h : HI yc yp yg sv sm B) (hB : B ≤ B') : HI yc yp yg sv sm B' := by
  obtain ⟨c, h1, h2, h3, h4, h5, h6, h7⟩ := h
  exact ⟨c, h1, h2, h3, h4, h5, h6, fun i hi => (h7 i hi).mono hB⟩
theorem c_slot {yp : Nat → Nat} {i : Nat} (hi : i < 4) : fX2_slotAt yp (nI i) = some (yp i) := by
  rw [fX2_slotAt, if_neg (nI_pos (by omega)), if_neg (show ¬ Int32.ofNat 4 ≤ nI i from nI_ge (b := 4) hi (by decide)), if_pos (show ¬ (nI i < 0 ∨ 4 ≤ (nI i).toNatClampNeg) from vp_in_nI hi (by decide)), nI_clamp (by omega)]
theorem c_savJ {n : Nat} {es : List Row} {fl : List Nat} {sk : List Row} {ft er : Tab} {eb : Int32} {li st : Tab} {rd tu la : Int32} {dl : Bool} {sh tb : Int32} {sa : Nat → Int32} {B fu c : Nat} {yp : Nat → Nat} {yg : Nat → GV} (h : GI n es fl sk ft er eb li st rd tu la dl sh tb sa B) (hc : c < 4) (hp : yp c < 4) (hz : GVZ (yg (yp c))) :
    ∃ g, fX2_save_J16 fu ft er eb li st rd tu la dl sh tb (nI c) yp yg = some (nI (c + 1), yp, va_up yg (yp c) g) ∧ GVR g sa B := by
  obtain ⟨ft', er', li', st', a, b⟩ := g_copy (yg (yp c)).2.2.1 (yg (yp c)).2.2.2.2.2.1 (yg (yp c)).2.2.2.2.2.2.1 (yg (yp c)).2.2.2.2.2.2.2.1 (yg (yp c)).2.2.2.2.2.2.2.2.1 (yg (yp c)).2.2.2.2.2.2.2.2.2.1 (yg (yp c)).2.2.2.2.2.2.2.2.2.2 h hz
  refine ⟨(ft', er', eb, li', st', rd, tu, la, dl, sh, tb), ?_, ⟨n, es, fl, sk, b⟩⟩
  rw [fX2_save_J16, c_slot hc]
  simp only [Option.bind_some]
  rw [if_pos hp, a]
  simp only [Option.bind_some, nS]
theorem c_dropO {fu : Nat} {yp : Nat → Nat} (hp : ∀ i, i < 4 → yp i < 4) (hfu : 2000 < fu) : ∃ yp', fX2_dropOldest fu (nI 4) yp = some (nI 3, yp') ∧ ∀ i, i < 4 → yp' i = yp (if i = 3 then 0 else i + 1) := by
  obtain ⟨k, rfl⟩ : ∃ k, fu = k + 4 := ⟨fu - 4, by omega⟩
  refine ⟨va_up (va_up (va_up (va_up yp 0 (yp 1)) 1 (yp 2)) 2 (yp 3)) 3 (yp 0), ?_, fun i hi => ?_⟩
  · have p0 := hp 0 (by decide)
    have p1 := hp 1 (by decide)
    have p2 := hp 2 (by decide)
    have p3 := hp 3 (by decide)
    have s0 : fX2_slotAt yp 0 = some (yp 0) := c_slot (i := 0) (by decide)
    rw [fX2_dropOldest, s0, Option.bind_some, fX2_dropOldest_L8, if_neg (by decide), if_pos (by decide), if_pos ⟨by decide, p1⟩]
    show fX2_dropOldest_L8 (k + 4) (k + 3) (nI 4) (va_up yp 0 (yp 1)) (yp 0) 2 = _
    rw [fX2_dropOldest_L8, if_neg (by decide), if_pos (by decide), if_pos ⟨by decide, show va_up yp 0 (yp 1) 2 < 4 by rw [va_up_ne _ _ (by decide)]; exact p2⟩]
    show fX2_dropOldest_L8 (k + 4) (k + 2) (nI 4) (va_up (va_up yp 0 (yp 1)) 1 (va_up yp 0 (yp 1) 2)) (yp 0) 3 = _
    rw [va_up_ne yp (j := 2) _ (by decide), fX2_dropOldest_L8, if_neg (by decide), if_pos (by decide), if_pos ⟨by decide, show va_up (va_up yp 0 (yp 1)) 1 (yp 2) 3 < 4 by rw [va_up_ne _ _ (by decide), va_up_ne _ _ (by decide)]; exact p3⟩]
    show fX2_dropOldest_L8 (k + 4) (k + 1) (nI 4) (va_up (va_up (va_up yp 0 (yp 1)) 1 (yp 2)) 2 (va_up (va_up yp 0 (yp 1)) 1 (yp 2) 3)) (yp 0) 4 = _
    rw [va_up_ne _ (j := 3) _ (by decide), va_up_ne yp (j := 3) _ (by decide), fX2_dropOldest_L8, if_pos (by decide), if_neg (by decide), if_pos ⟨by decide, p0⟩]
    rfl
  · match i, hi with
    | 0, _ => rfl
    | 1, _ => rfl
    | 2, _ => rfl
    | 3, _ => rfl
theorem g_save {ft er : Tab} {eb : Int32} {li st : Tab} {rd tu la : Int32} {dl : Bool} {sh tb : Int32} {sa : Nat → Int32} {B fu : Nat} {yc : Int32} {yp : Nat → Nat} {yg : Nat → GV} {sv : Nat → Int32} {sm : Int32} (h : GR ft er eb li st rd tu la dl sh tb sa B) (hH : HI yc yp yg sv sm B) (hfu : 2000 < fu) :
    ∃ yc' yp' yg' sv' sm', fX2_save fu yc yp yg ft er eb li st rd tu la dl sh tb = some (yc', yp', yg') ∧ fX6_save fu sa sv sm = some (sv', sm') ∧ HI yc' yp' yg' sv' sm' B := by
  obtain ⟨n, es, fl, sk, h⟩ := h
  obtain ⟨c, hc, rfl, rfl, hp, hi, hz, hr⟩ := hH
  by_cases e : c < 4
  · obtain ⟨g, a, b⟩ := c_savJ (fu := fu) h e (hp c e) (hz _ (hp c e))
    obtain ⟨v, m1, m2⟩ := m_sav2 (fu := fu) (sa := sa) e 378 0 fu sv (by omega) (by omega)
    refine ⟨nI (c + 1), yp, va_up yg (yp c) g, v, nI (c + 1), ?_, ?_, c + 1, by omega, rfl, rfl, hp, hi, fun j hj => ?_, fun i hic => ?_⟩
    · rw [fX2_save, if_pos (show nI c < Int32.ofNat 4 from nI_lt (b := 4) e (by decide))]
      exact a
    · rw [fX6_save, if_neg (show ¬ nI c = 4 from fun q => by have := (nI_inj (b := 4) (by omega) (by decide)).mp q; omega), fX6_save_J49]
      exact m1
    · by_cases q : j = yp c
      · rw [q, va_up_self]; exact b.z
      · rw [va_up_ne _ _ q]; exact hz j hj
    · by_cases q : i = c
      · subst q
        rw [va_up_self]
        exact b.cong (fun q hq => by show v (378 * i + q) = _; rw [m2, if_pos (by omega), Nat.add_sub_cancel_left])
      · rw [va_up_ne _ _ (fun w => q (hi i c (by omega) e w))]
        exact (hr i (by omega)).cong (fun q hq => by show v (378 * i + q) = _; rw [m2, if_neg (by omega)])
  · have e4 : c = 4 := by omega
    subst e4
    obtain ⟨yp', d1, d2⟩ := c_dropO (fu := fu) hp hfu
    have hp' : ∀ i, i < 4 → yp' i < 4 := fun i hi4 => by rw [d2 i hi4]; split; exact hp 0 (by decide); exact hp _ (by omega)
    have hi' : ∀ i j, i < 4 → j < 4 → yp' i = yp' j → i = j := fun i j h1 h2 w => by
      rw [d2 i h1, d2 j h2] at w
      have := hi _ _ (by split <;> omega) (by split <;> omega) w
      split at this <;> split at this <;> omega
    obtain ⟨g, a, b⟩ := c_savJ (fu := fu) (yp := yp') (yg := yg) (c := 3) h (by decide) (hp' 3 (by decide)) (hz _ (hp' 3 (by decide)))
    obtain ⟨v1, m1, m2⟩ := m_sav1 (fu := fu) (sa := sa) (sm := nI 4) 1134 0 fu sv (by omega) (by omega)
    obtain ⟨v, m3, m4⟩ := m_sav2 (fu := fu) (sa := sa) (c := 3) (by decide) 378 0 fu v1 (by omega) (by omega)
    refine ⟨nI 4, yp', va_up yg (yp' 3) g, v, nI 4, ?_, ?_, 4, Nat.le_refl _, rfl, rfl, hp', hi', fun j hj => ?_, fun i hic => ?_⟩
    · rw [fX2_save, if_neg (by decide), d1]
      exact a
    · rw [fX6_save, if_pos (by decide)]
      refine m1.trans ?_
      rw [fX6_save_J49]
      exact m3
    · by_cases q : j = yp' 3
      · rw [q, va_up_self]; exact b.z
      · rw [va_up_ne _ _ q]; exact hz j hj
    · by_cases q : i = 3
      · subst q
        rw [va_up_self]
        exact b.cong (fun q hq => by show v (378 * 3 + q) = _; rw [m4, if_pos (by omega), Nat.add_sub_cancel_left])
      · rw [va_up_ne _ _ (fun w => q (hi' i 3 (by omega) (by decide) w)), d2 i hic, if_neg q]
        exact (hr (i + 1) (by omega)).cong (fun q hq => by show v (378 * i + q) = _; rw [m4, if_neg (by omega), m2, if_pos (by omega), show 378 * i + q + 378 = 378 * (i + 1) + q by omega])
theorem g_undo {zft zer : Tab} (zeb : Int32) {zli zst : Tab} (zrd ztu zla : Int32) (zdl : Bool) (zsh ztb : Int32) {sa : Nat → Int32} {B fu : Nat} {c : Nat} {yp : Nat → Nat} {yg : Nat → GV} {sv : Nat → Int32} (th : Int32) (hz : GZ zft zer zli zst) (hH : HI (nI (c + 1)) yp yg sv (nI (c + 1)) B) (hc : c < 4) (hfu : 2000 < fu) :
    ∃ ft er eb li st rd tu la dl sh tb sa', fX2_restore (nI (c + 1)) yp yg zft zer zeb zli zst zrd ztu zla zdl zsh ztb = some (nI c, ft, er, eb, li, st, rd, tu, la, dl, sh, tb) ∧ fX6_undo_L30 fu sv fu th sa (nI c) 0 = some (nI c, th, sa', nI c) ∧ GR ft er eb li st rd tu la dl sh tb sa' B ∧ HI (nI c) yp yg sv (nI c) B := by
  obtain ⟨c0, hc0, e0, -, hp, hi, hg, hr⟩ := hH
  have : c0 = c + 1 := ((nI_inj (by omega) (by omega)).mp e0).symm
  subst this
  obtain ⟨n, es, fl, sk, h⟩ := hr c (Nat.lt_succ_self c)
  obtain ⟨ft', er', li', st', a, b⟩ := g_copy zeb zrd ztu zla zdl zsh ztb h hz
  obtain ⟨s', m1, m2⟩ := m_und (fu := fu) (v := sv) (th := th) hc 378 0 fu sa (by omega) (by omega)
  refine ⟨ft', er', _, li', st', _, _, _, _, _, _, s', ?_, m1, ⟨n, es, fl, sk, b.cong (fun q hq => by rw [m2, if_pos (by omega)])⟩, c, by omega, rfl, rfl, hp, hi, hg, fun i hic => hr i (by omega)⟩
  rw [fX2_restore, nI_pred, c_slot hc]
  simp only [Option.bind_some]
  rw [if_pos (hp c hc), a]
  rfl
