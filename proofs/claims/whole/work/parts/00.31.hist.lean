/-! copies, saved states -/
def TZ (c mx : Nat) (T : Tab) : Prop := T.1 = nI c ∧ T.2.1 = mx * c
theorem TL.z {c mx : Nat} {T : Tab} {rs : List Row} (h : TL c mx T rs) : TZ c mx T := ⟨h.1, h.2.1⟩
theorem t_copyZ {c mx : Nat} {T o : Tab} {r2 : List Row} (h : TZ c mx T) (ho : TL c mx o r2) (d : TD c mx) : ∃ T', fX4_copyFrom T o = some T' ∧ TL c mx T' r2 := by
  have hb := tl_big d
  obtain ⟨h1, h2⟩ := h
  obtain ⟨o1, o2, o3, o4, o5⟩ := ho
  have e : (if Int32.ofNat (mx * c) < Int32.ofNat (mx * c) then Int32.ofNat (mx * c) else Int32.ofNat (mx * c)) = nI (mx * c) := by split <;> rfl
  have c1 : (nI (mx * c)).toNatClampNeg = mx * c := nI_clamp (by omega)
  have c0 : (0 : Int32).toNatClampNeg = 0 := rfl
  refine ⟨(T.1, T.2.1, va_cpy o.2.2.1 T.2.2.1 0 0 (mx * c), o.2.2.2), ?_, h1, h2, o3, o4, ?_⟩
  · rw [fX4_copyFrom, h2, o2, e, c1, c0, if_pos ⟨by decide, by decide, nI_pos (by omega), by omega, by omega⟩]
  · intro i r hr
    obtain ⟨k1, k2⟩ := o5 i r hr
    refine ⟨k1, fun j hj => ?_⟩
    have hlt : i * c + j < mx * c := tl_ix (Nat.lt_of_lt_of_le (tl_lt hr) o4) hj
    show va_cpy o.2.2.1 T.2.2.1 0 0 (mx * c) (i * c + j) = _
    rw [pk_cpy_in (Nat.zero_le _) (by omega)]
    simpa using k2 j hj
/-- tables to copy into -/
def GZ (ft er li st : Tab) : Prop := TZ 4 10 ft ∧ TZ 8 30 er ∧ TZ 2 10 li ∧ TZ 7 8 st
theorem GI.z {n : Nat} {es : List Row} {fl : List Nat} {sk : List Row} {ft er : Tab} {eb : Int32} {li st : Tab} {rd tu la : Int32} {dl : Bool} {sh tb : Int32} {sa : Nat → Int32} {B : Nat} (h : GI n es fl sk ft er eb li st rd tu la dl sh tb sa B) : GZ ft er li st := ⟨h.1.1.1.z, TL.z h.1.2.1, TL.z h.1.2.2.1, TL.z h.1.2.2.2⟩
theorem GR.z {ft er : Tab} {eb : Int32} {li st : Tab} {rd tu la : Int32} {dl : Bool} {sh tb : Int32} {sa : Nat → Int32} {B : Nat} (h : GR ft er eb li st rd tu la dl sh tb sa B) : GZ ft er li st := by
  obtain ⟨n, es, fl, sk, h⟩ := h; exact h.z
theorem g_copy {n : Nat} {es : List Row} {fl : List Nat} {sk : List Row} {ft er : Tab} {eb : Int32} {li st : Tab} {rd tu la : Int32} {dl : Bool} {sh tb : Int32} {sa : Nat → Int32} {B : Nat} {zft zer zli zst : Tab} (zeb zrd ztu zla : Int32) (zdl : Bool) (zsh ztb : Int32) (h : GI n es fl sk ft er eb li st rd tu la dl sh tb sa B) (hz : GZ zft zer zli zst) :
    ∃ ft' er' li' st', fX1_copyFrom zft zer zeb zli zst zrd ztu zla zdl zsh ztb ft er eb li st rd tu la dl sh tb = some (ft', er', eb, li', st', rd, tu, la, dl, sh, tb) ∧ GI n es fl sk ft' er' eb li' st' rd tu la dl sh tb sa B := by
  obtain ⟨⟨hF, hE, hL, hSt⟩, h⟩ := h
  obtain ⟨z1, z2, z3, z4⟩ := hz
  obtain ⟨ft', a1, a2⟩ := t_copyZ z1 hF.1 d4
  obtain ⟨er', b1, b2⟩ := t_copyZ z2 hE d8
  obtain ⟨li', c1, c2⟩ := t_copyZ z3 hL d2
  obtain ⟨st', e1, e2⟩ := t_copyZ z4 hSt d7
  refine ⟨ft', er', li', st', ?_, ⟨⟨a2, hF.2⟩, b2, c2, e2⟩, h⟩
  rw [fX1_copyFrom, fX0_copyFrom, a1, b1, c1, e1]
  rfl
theorem cp_step {k q i : Nat} {f g : Nat → Int32} (hk : k = i) (h : ∀ q, q ≠ k → f q = g q) (hq : q ≠ i) : f q = g q := h q (by omega)
theorem m_holdL {fu : Nat} {sa : Nat → Int32} : ∀ (d i k : Nat) (a : Nat → Int32), i + d = 378 → d < k → ∃ a', fX6_hold_L2 fu sa k a (nI i) = some a' ∧ ∀ q, a' q = if i ≤ q ∧ q < 378 then sa q else a q
  | 0, i, k + 1, a, hd, hk => by
    refine ⟨a, ?_, fun q => by rw [if_neg (by omega)]⟩
    rw [fX6_hold_L2, if_pos (show (378 : Int32) ≤ nI i from nI_le (a := 378) (by omega) (by omega))]
  | d + 1, i, k + 1, a, hd, hk => by
    obtain ⟨a', h1, h2⟩ := m_holdL (fu := fu) (sa := sa) d (i + 1) k (upd a i (sa i)) (by omega) (by omega)
    refine ⟨a', ?_, fun q => ?_⟩
    · rw [fX6_hold_L2, if_neg (show ¬ (378 : Int32) ≤ nI i from nI_ge (b := 378) (by omega) (by omega)), gd i rfl (by omega) (by decide), gd i rfl (by omega) (by decide), nI_clamp (by omega), nS]
      exact h1
    · rw [h2 q]
      by_cases e : q = i
      · rw [if_neg (by omega), if_pos (by omega), e, pk_us]
      · rw [pk_un e]
        by_cases e2 : i + 1 ≤ q ∧ q < 378
        · rw [if_pos e2, if_pos (by omega)]
        · rw [if_neg e2, if_neg (by omega)]
theorem m_hold {fu : Nat} (sa asd : Nat → Int32) (hfu : 2000 < fu) : ∃ a', fX6_hold fu sa asd = some a' ∧ ∀ q, q < 378 → a' q = sa q := by
  obtain ⟨a', h1, h2⟩ := m_holdL (fu := fu) (sa := sa) 378 0 fu asd (by omega) (by omega)
  exact ⟨a', h1, fun q hq => by rw [h2, if_pos (by omega)]⟩
theorem m_relL {fu : Nat} {sa : Nat → Int32} : ∀ (d i k : Nat) (a : Nat → Int32), i + d = 378 → d < k → ∃ a', fX6_release_L2 fu sa k a (nI i) = some a' ∧ ∀ q, a' q = if i ≤ q ∧ q < 378 then sa q else a q
  | 0, i, k + 1, a, hd, hk => by
    refine ⟨a, ?_, fun q => by rw [if_neg (by omega)]⟩
    rw [fX6_release_L2, if_pos (show (378 : Int32) ≤ nI i from nI_le (a := 378) (by omega) (by omega))]
  | d + 1, i, k + 1, a, hd, hk => by
    obtain ⟨a', h1, h2⟩ := m_relL (fu := fu) (sa := sa) d (i + 1) k (upd a i (sa i)) (by omega) (by omega)
    refine ⟨a', ?_, fun q => ?_⟩
    · rw [fX6_release_L2, if_neg (show ¬ (378 : Int32) ≤ nI i from nI_ge (b := 378) (by omega) (by omega)), gd i rfl (by omega) (by decide), gd i rfl (by omega) (by decide), nI_clamp (by omega), nS]
      exact h1
    · rw [h2 q]
      by_cases e : q = i
      · rw [if_neg (by omega), if_pos (by omega), e, pk_us]
      · rw [pk_un e]
        by_cases e2 : i + 1 ≤ q ∧ q < 378
        · rw [if_pos e2, if_pos (by omega)]
        · rw [if_neg e2, if_neg (by omega)]
theorem m_rel {fu : Nat} (sa asd : Nat → Int32) (hfu : 2000 < fu) : ∃ a', fX6_release fu sa asd = some a' ∧ ∀ q, q < 378 → a' q = asd q := by
  obtain ⟨a', h1, h2⟩ := m_relL (fu := fu) (sa := asd) 378 0 fu sa (by omega) (by omega)
  exact ⟨a', h1, fun q hq => by rw [h2, if_pos (by omega)]⟩
theorem m_exL {fu : Nat} : ∀ (d i k : Nat) (s a : Nat → Int32), i + d = 378 → d < k → ∃ s' a', fX6_exchange_L2 fu k s a (nI i) = some (s', a') ∧ (∀ q, s' q = if i ≤ q ∧ q < 378 then a q else s q) ∧ ∀ q, a' q = if i ≤ q ∧ q < 378 then s q else a q
  | 0, i, k + 1, s, a, hd, hk => by
    refine ⟨s, a, ?_, fun q => by rw [if_neg (by omega)], fun q => by rw [if_neg (by omega)]⟩
    rw [fX6_exchange_L2, if_pos (show (378 : Int32) ≤ nI i from nI_le (a := 378) (by omega) (by omega))]
  | d + 1, i, k + 1, s, a, hd, hk => by
    obtain ⟨s', a', h1, h2, h3⟩ := m_exL (fu := fu) d (i + 1) k (upd s i (a i)) (upd a i (s i)) (by omega) (by omega)
    refine ⟨s', a', ?_, fun q => ?_, fun q => ?_⟩
    · rw [fX6_exchange_L2, if_neg (show ¬ (378 : Int32) ≤ nI i from nI_ge (b := 378) (by omega) (by omega)), gd i rfl (by omega) (by decide), gd i rfl (by omega) (by decide), gd i rfl (by omega) (by decide), gd i rfl (by omega) (by decide), nI_clamp (by omega), nS]
      exact h1
    · rw [h2 q]
      by_cases e : q = i
      · rw [if_neg (by omega), if_pos (by omega), e, pk_us]
      · rw [pk_un e, pk_un e]
        by_cases e2 : i + 1 ≤ q ∧ q < 378
        · rw [if_pos e2, if_pos (by omega)]
        · rw [if_neg e2, if_neg (by omega)]
    · rw [h3 q]
      by_cases e : q = i
      · rw [if_neg (by omega), if_pos (by omega), e, pk_us]
      · rw [pk_un e, pk_un e]
        by_cases e2 : i + 1 ≤ q ∧ q < 378
        · rw [if_pos e2, if_pos (by omega)]
        · rw [if_neg e2, if_neg (by omega)]
theorem m_ex {fu : Nat} (s a : Nat → Int32) (hfu : 2000 < fu) : ∃ s' a', fX6_exchange fu s a = some (s', a') ∧ (∀ q, q < 378 → s' q = a q) ∧ ∀ q, q < 378 → a' q = s q := by
  obtain ⟨s', a', h1, h2, h3⟩ := m_exL (fu := fu) 378 0 fu s a (by omega) (by omega)
  exact ⟨s', a', h1, fun q hq => by rw [h2, if_pos (by omega)], fun q hq => by rw [h3, if_pos (by omega)]⟩
theorem ofV (c i : Nat) : ((378 : Int32) * nI c) + nI i = nI (378 * c + i) := by
  rw [show (378 : Int32) = nI 378 from rfl, pk_mul, nI_add]
theorem m_sav2 {fu c : Nat} {sa : Nat → Int32} (hc : c < 4) : ∀ (d i k : Nat) (v : Nat → Int32), i + d = 378 → d < k → ∃ v', fX6_save_L51 fu sa k v (nI c) (nI i) = some (v', nI (c + 1)) ∧ ∀ q, v' q = if 378 * c + i ≤ q ∧ q < 378 * c + 378 then sa (q - 378 * c) else v q
  | 0, i, k + 1, v, hd, hk => by
    refine ⟨v, ?_, fun q => by rw [if_neg (by omega)]⟩
    rw [fX6_save_L51, if_pos (show (378 : Int32) ≤ nI i from nI_le (a := 378) (by omega) (by omega)), nS]
  | d + 1, i, k + 1, v, hd, hk => by
    obtain ⟨v', h1, h2⟩ := m_sav2 (fu := fu) (sa := sa) hc d (i + 1) k (upd v (378 * c + i) (sa i)) (by omega) (by omega)
    refine ⟨v', ?_, fun q => ?_⟩
    · rw [fX6_save_L51, if_neg (show ¬ (378 : Int32) ≤ nI i from nI_ge (b := 378) (by omega) (by omega)), gd i rfl (by omega) (by decide), ofV, gd (378 * c + i) rfl (by omega) (by decide), nI_clamp (show i < 2 ^ 31 by omega), nI_clamp (show 378 * c + i < 2 ^ 31 by omega), nS]
      exact h1
    · rw [h2 q]
      by_cases e : q = 378 * c + i
      · rw [if_neg (by omega), if_pos (by omega), e, pk_us, Nat.add_sub_cancel_left]
      · rw [pk_un e]
        by_cases e2 : 378 * c + (i + 1) ≤ q ∧ q < 378 * c + 378
        · rw [if_pos e2, if_pos (by omega)]
        · rw [if_neg e2, if_neg (by omega)]
theorem m_sav1 {fu : Nat} {sa : Nat → Int32} {sm : Int32} : ∀ (d i k : Nat) (v : Nat → Int32), i + d = 1134 → d < k → ∃ v', fX6_save_L10 fu sa k v sm (nI i) = fX6_save_J49 fu sa v' (sm - 1) ∧ ∀ q, v' q = if i ≤ q ∧ q < 1134 then v (q + 378) else v q
  | 0, i, k + 1, v, hd, hk => by
    refine ⟨v, ?_, fun q => by rw [if_neg (by omega)]⟩
    rw [fX6_save_L10, if_pos (show (1134 : Int32) ≤ nI i from nI_le (a := 1134) (by omega) (by omega))]
  | d + 1, i, k + 1, v, hd, hk => by
    obtain ⟨v', h1, h2⟩ := m_sav1 (fu := fu) (sa := sa) (sm := sm) d (i + 1) k (upd v i (v (i + 378))) (by omega) (by omega)
    refine ⟨v', ?_, fun q => ?_⟩
    · have e1 : nI i + (378 : Int32) = nI (i + 378) := nI_add i 378
      rw [fX6_save_L10, if_neg (show ¬ (1134 : Int32) ≤ nI i from nI_ge (b := 1134) (by omega) (by omega)), e1, gd (i + 378) rfl (by omega) (by decide), gd i rfl (by omega) (by decide), nI_clamp (show i < 2 ^ 31 by omega), nI_clamp (show i + 378 < 2 ^ 31 by omega), nS]
      exact h1
    · rw [h2 q]
      by_cases e : q = i
      · rw [if_neg (by omega), if_pos (by omega), e, pk_us]
      · by_cases e2 : i + 1 ≤ q ∧ q < 1134
        · rw [if_pos e2, if_pos (by omega), pk_un (by omega)]
        · rw [if_neg e2, if_neg (by omega), pk_un e]
theorem m_und {fu c : Nat} {v : Nat → Int32} {th : Int32} (hc : c < 4) : ∀ (d i k : Nat) (s : Nat → Int32), i + d = 378 → d < k → ∃ s', fX6_undo_L30 fu v k th s (nI c) (nI i) = some (nI c, th, s', nI c) ∧ ∀ q, s' q = if i ≤ q ∧ q < 378 then v (378 * c + q) else s q
  | 0, i, k + 1, s, hd, hk => by
    refine ⟨s, ?_, fun q => by rw [if_neg (by omega)]⟩
    rw [fX6_undo_L30, if_pos (show (378 : Int32) ≤ nI i from nI_le (a := 378) (by omega) (by omega))]
  | d + 1, i, k + 1, s, hd, hk => by
    obtain ⟨s', h1, h2⟩ := m_und (fu := fu) (v := v) (th := th) hc d (i + 1) k (upd s i (v (378 * c + i))) (by omega) (by omega)
    refine ⟨s', ?_, fun q => ?_⟩
    · rw [fX6_undo_L30, if_neg (show ¬ (378 : Int32) ≤ nI i from nI_ge (b := 378) (by omega) (by omega)), ofV, gd (378 * c + i) rfl (by omega) (by decide), gd i rfl (by omega) (by decide), nI_clamp (show i < 2 ^ 31 by omega), nI_clamp (show 378 * c + i < 2 ^ 31 by omega), nS]
      exact h1
    · rw [h2 q]
      by_cases e : q = i
      · rw [if_neg (by omega), if_pos (by omega), e, pk_us]
      · rw [pk_un e]
        by_cases e2 : i + 1 ≤ q ∧ q < 378
        · rw [if_pos e2, if_pos (by omega)]
        · rw [if_neg e2, if_neg (by omega)]
