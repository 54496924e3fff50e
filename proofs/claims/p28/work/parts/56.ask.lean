/-! what is asked -/
def cntS (sa : Nat → Int32) : Nat → Int32
  | 0 => 0
  | i + 1 => if stF sa i = true then cntS sa i + 1 else cntS sa i
def sumL (sa : Nat → Int32) : Nat → Int32
  | 0 => 0
  | i + 1 => sumL sa i + sa (12 + 6 * i + 2)
theorem cntS_0 {sa : Nat → Int32} : ∀ (n : Nat), (∀ f, f < n → stF sa f = false) → cntS sa n = 0
  | 0, _ => rfl
  | n + 1, h => by
    rw [cntS, h n (Nat.lt_succ_self n), if_neg (by decide)]
    exact cntS_0 n (fun f hf => h f (by omega))
theorem rw_ok {p a b : Int32} (h : inB p a b = true) : fX5_requireWithin p a b = some () := by
  rw [fX5_requireWithin, c_within, h]
  rfl
theorem rf_ok {ft : Tab} {sa : Nat → Int32} {n a : Nat} (h : FC ft sa n) (ha : a < n) : fX5_requireFighter ft (nI a) = some () := by
  have hn := h.2
  rw [fX5_requireFighter, fX1_isFighter, if_neg (nI_pos (by omega)), h.cnt]
  simp only [Option.bind_some]
  rw [if_neg (nI_ge ha (by omega))]
  rfl
theorem re_ok {er : Tab} {es : List Row} {e : Nat} (h : EC er es) (he : e < es.length) : fX5_requireEffect er (nI e) = some () := by
  have hn := h.le
  rw [fX5_requireEffect, fX1_effectCount, fX0_count, h.cnt]
  simp only [Option.bind_some, c_within]
  rw [inB_oix he (by omega)]
  rfl
theorem c_standL {ft : Tab} {sa : Nat → Int32} {n fu : Nat} (h : FC ft sa n) : ∀ (d i k : Nat), i + d = n → d < k → fX1_standing_L4 fu ft k (cntS sa i) (nI i) = some (cntS sa n)
  | 0, i, k + 1, hd, hk => by
    have hn := h.2
    rw [fX1_standing_L4, h.cnt]
    simp only [Option.bind_some]
    rw [if_pos (nI_le (by omega) (by omega)), show i = n by omega]
  | d + 1, i, k + 1, hd, hk => by
    have hn := h.2
    have ih := c_standL (fu := fu) h d (i + 1) k (by omega) (by omega)
    rw [fX1_standing_L4, h.cnt]
    simp only [Option.bind_some]
    rw [if_neg (nI_ge (by omega) (by omega)), c_stands h (show i < n by omega)]
    simp only [Option.bind_some, nS]
    rw [cntS] at ih
    cases hs : stF sa i with
    | false => rw [if_pos bI_ff]; rw [hs, if_neg (by decide)] at ih; exact ih
    | true => rw [if_neg bI_t]; rw [hs, if_pos rfl] at ih; exact ih
theorem c_standing {ft : Tab} {sa : Nat → Int32} {n fu : Nat} (h : FC ft sa n) (hfu : 2000 < fu) : fX1_standing fu ft = some (cntS sa n) := c_standL h n 0 fu (by omega) (by have := h.2; omega)
theorem c_totL {ft : Tab} {sa : Nat → Int32} {n fu : Nat} (h : FC ft sa n) : ∀ (d i k : Nat), i + d = n → d < k → fX1_total_L4 fu ft 2 k (sumL sa i) (nI i) = some (sumL sa n)
  | 0, i, k + 1, hd, hk => by
    have hn := h.2
    rw [fX1_total_L4, h.cnt]
    simp only [Option.bind_some]
    rw [if_pos (nI_le (by omega) (by omega)), show i = n by omega]
  | d + 1, i, k + 1, hd, hk => by
    have hn := h.2
    have ih := c_totL (fu := fu) h d (i + 1) k (by omega) (by omega)
    have e : fX4_at ft (nI i) 2 = some (sa (12 + 6 * i + 2)) := h.at (show i < n by omega) (by decide)
    rw [fX1_total_L4, h.cnt]
    simp only [Option.bind_some]
    rw [if_neg (nI_ge (by omega) (by omega)), e]
    simp only [Option.bind_some, nS]
    exact ih
theorem c_lives {ft : Tab} {sa : Nat → Int32} {n fu : Nat} (h : FC ft sa n) (hfu : 2000 < fu) : fX1_lives fu ft = some (sumL sa n) := by
  have e : fX1_total_L4 fu ft 2 fu 0 0 = some (sumL sa n) := c_totL (fu := fu) h n 0 fu (by omega) (by have := h.2; omega)
  rw [fX1_lives, fX1_total, e]
  rfl
section Q56
variable {n : Nat} {sa : Nat → Int32} {es : List Row} {fl : List Nat} {sk : List Row} {ft er li st : Tab} {fu : Nat}
theorem v_0 (eb rd tu sh tb : Int32) (h : GX n sa es fl sk ft er li st) : fX5_value fu ft er eb st rd tu sh tb 0 = some (nI n) := by
  rw [fX5_value, rw_ok (by decide), fX1_number, if_pos rfl, h.1.cnt]; rfl
theorem v_1 (eb rd tu sh tb : Int32) (h : GX n sa es fl sk ft er li st) (hfu : 2000 < fu) : fX5_value fu ft er eb st rd tu sh tb 1 = some (cntS sa n) := by
  rw [fX5_value, rw_ok (by decide), fX1_number, if_neg (by decide), if_pos rfl, c_standing h.1 hfu]; rfl
theorem v_2 (eb rd tu sh tb : Int32) (h : GX n sa es fl sk ft er li st) : fX5_value fu ft er eb st rd tu sh tb 2 = some (nI es.length) := by
  rw [fX5_value, rw_ok (by decide), fX1_number, if_neg (by decide), if_neg (by decide), if_pos rfl, fX0_count, h.2.1.cnt]; rfl
theorem v_3 (eb rd tu sh tb : Int32) : fX5_value fu ft er eb st rd tu sh tb 3 = some rd := by
  rw [fX5_value, rw_ok (by decide), fX1_number, if_neg (by decide), if_neg (by decide), if_neg (by decide), if_pos rfl]; rfl
theorem v_4 (eb rd tu sh tb : Int32) : fX5_value fu ft er eb st rd tu sh tb 4 = some tu := by
  rw [fX5_value, rw_ok (by decide), fX1_number, if_neg (by decide), if_neg (by decide), if_neg (by decide), if_neg (by decide), if_pos rfl]; rfl
theorem v_5 (eb rd tu sh tb : Int32) (h : GX n sa es fl sk ft er li st) : fX5_value fu ft er eb st rd tu sh tb 5 = some (nI sk.length) := by
  rw [fX5_value, rw_ok (by decide), fX1_number, if_neg (by decide), if_neg (by decide), if_neg (by decide), if_neg (by decide), if_neg (by decide), if_pos rfl, t_count h.2.2.2.1]; rfl
theorem v_8 (eb rd tu sh tb : Int32) (h : GX n sa es fl sk ft er li st) : fX5_value fu ft er eb st rd tu sh tb 8 = some (eb - nI es.length) := by
  rw [fX5_value, rw_ok (by decide), fX1_number, if_neg (by decide), if_neg (by decide), if_neg (by decide), if_neg (by decide), if_neg (by decide), if_neg (by decide), if_neg (by decide), if_neg (by decide), fX0_ended, h.2.1.cnt]; rfl
theorem num_ok (eb rd tu sh tb p : Int32) (h : GX n sa es fl sk ft er li st) (hfu : 2000 < fu) : ∃ v, fX1_number fu ft er eb st rd tu sh tb p = some v := by
  rw [fX1_number, h.1.cnt, c_standing h.1 hfu, fX0_count, h.2.1.cnt, t_count h.2.2.2.1, fX0_ended, h.2.1.cnt]
  simp only [Option.bind_some]
  repeat' split
  all_goals exact ⟨_, rfl⟩
/-- where a fighter is in the list, and how -/
def stOf (sa : Nat → Int32) (fl : List Nat) (a : Nat) : Int32 := if a ∈ fl then sa (12 + 6 * a + 4) else -1
theorem c_stOf (h : GX n sa es fl sk ft er li st) {a : Nat} (ha : a < n) (hfu : 2000 < fu) : fX1_stateOf fu li (nI a) = some (stOf sa fl a) := by
  have hn := h.n10
  have hPL := h.2.2.2.2.2.2.1
  rw [fX1_stateOf, c_place h.2.2.1 hPL.1 (by omega) (by omega), stOf]
  simp only [Option.bind_some]
  by_cases hm : a ∈ fl
  · obtain ⟨k, k1, k2⟩ := plF_yes (i := 0) hm
    rw [k1, Nat.zero_add, h.2.2.1.at1 k2, if_pos hm]
    rfl
  · rw [plF_no hm, t_at_neg (show (-1 : Int32) < 0 by decide), if_neg hm]
    rfl
def abF (sa : Nat → Int32) (es : List Row) (fl : List Nat) (a : Nat) (p : Int32) : Int32 :=
  if p = 0 then sa (12 + 6 * a) else if p = 1 then sa (12 + 6 * a + 1) else if p = 2 then sa (12 + 6 * a + 2) else if p = 3 then spF sa es a else if p = 4 then sa (12 + 6 * a + 3) else if p = 5 then stOf sa fl a else if p = 6 then plF a fl 0 else if p = 7 then heldF (nI a) es 0 else conF (nI a) es 0
theorem ab_ok (h : GX n sa es fl sk ft er li st) {a : Nat} (ha : a < n) (p : Int32) (hfu : 2000 < fu) : fX1_aboutFighter fu ft er li (nI a) p = some (abF sa es fl a p) := by
  have hn := h.n10
  have hPL := h.2.2.2.2.2.2.1
  have a0 : fX4_at ft (nI a) 0 = some (sa (12 + 6 * a)) := h.1.at ha (j := 0) (by decide)
  have a1 : fX4_at ft (nI a) 1 = some (sa (12 + 6 * a + 1)) := h.1.at ha (j := 1) (by decide)
  have a2 : fX4_at ft (nI a) 2 = some (sa (12 + 6 * a + 2)) := h.1.at ha (j := 2) (by decide)
  have a3 : fX4_at ft (nI a) 3 = some (sa (12 + 6 * a + 3)) := h.1.at ha (j := 3) (by decide)
  rw [fX1_aboutFighter, a0, a1, a2, a3, c_speed h.1 h.2.1 ha (by omega), c_stOf h ha hfu, c_place h.2.2.1 hPL.1 (by omega) (by omega), c_held (nI a) h.2.1 (by omega), c_con (nI a) h.2.1 (by omega), abF]
  simp only [Option.bind_some]
  repeat' split
  all_goals first | rfl | contradiction
theorem f_ok (h : GX n sa es fl sk ft er li st) {a j : Nat} (ha : a < n) (hj : j ≤ 8) (hfu : 2000 < fu) : fX5_fighter fu ft er li (nI a) (nI j) = some (abF sa es fl a (nI j)) := by
  rw [fX5_fighter, rf_ok h.1 ha, rw_ok (show inB (nI j) 0 8 = true from inB_of (a := 0) (b := 8) (Nat.zero_le _) hj (by decide)), ab_ok h ha _ hfu]
  rfl
theorem e_ok (h : GX n sa es fl sk ft er li st) {e j : Nat} {r : Row} (he : es[e]? = some r) (hj : j ≤ 6) : fX5_effect er (nI e) (nI j) = some (gD r j) := by
  rw [fX5_effect, re_ok h.2.1 (tl_lt he), rw_ok (show inB (nI j) 0 6 = true from inB_of (a := 0) (b := 6) (Nat.zero_le _) hj (by decide)), fX1_aboutEffect, fX0_about, h.2.1.at he (show j < 8 by omega)]
  rfl
theorem l_ok (h : GX n sa es fl sk ft er li st) {k f : Nat} (hk : fl[k]? = some f) : fX5_inList li (nI k) = some (nI f) := by
  have hl := h.2.2.1.le
  rw [fX5_inList, fX1_listLength, h.2.2.1.cnt]
  simp only [Option.bind_some, c_within]
  rw [inB_oix (tl_lt hk) (by omega), if_neg bI_t, fX1_listed, h.2.2.1.at0 hk]
  rfl
theorem s_ok (h : GX n sa es fl sk ft er li st) {sk0 : List Row} {r : Row} (hs : sk = sk0 ++ [r]) : fX5_stacked st 0 1 = some (gD r 1) := by
  subst hs
  have hS := h.2.2.2.1
  have hl := hS.2.2.2.1
  have a1 : fX1_aboutAct st 0 1 = some (gD r 1) := c_topAct hS (j := 1) (by decide)
  simp at hl
  rw [fX5_stacked, fX1_stackSize, t_count hS]
  simp only [Option.bind_some, c_within]
  rw [show inB 0 0 (nI (sk0 ++ [r]).length - 1) = true from inB_oix (j := 0) (by simp) (by simp; omega), if_neg bI_t, rw_ok (by decide), a1]
  rfl
/-- who may answer -/
def mayB (sa : Nat → Int32) (sk : List Row) (a : Nat) : Bool := match sk.getLast? with
  | none => false
  | some r => decide (sk.length < 8) && stF sa a && decide (sa (12 + 6 * a + 3) = 1) && !decide (gD r 1 = nI a)
theorem can_ok (h : GX n sa es fl sk ft er li st) {a : Nat} (ha : a < n) : fX1_canAnswer ft st (nI a) = some (mayB sa sk a) := by
  have hS := h.2.2.2.1
  have hl := hS.2.2.2.1
  have a3 : fX4_at ft (nI a) 3 = some (sa (12 + 6 * a + 3)) := h.1.at ha (j := 3) (by decide)
  have J24 : fX1_canAnswer_J24 ft st (nI a) = some false := by
    rw [fX1_canAnswer_J24, fX1_canAnswer_J25, c_stands h.1 ha, a3, fX1_canAnswer_J51, fX1_canAnswer_J52, fX1_canAnswer_J52]
    simp only [Option.bind_some]
    repeat' split
    all_goals first | rfl | (exact absurd bI_ff (by assumption))
  rw [fX1_canAnswer, t_count hS]
  simp only [Option.bind_some]
  rcases List.eq_nil_or_concat sk with e | ⟨sk0, r, e⟩
  · subst e
    rw [if_pos (show nI ([] : List Row).length ≤ 0 by decide), J24]
    rfl
  · rw [List.concat_eq_append] at e
    subst e
    have hl' := hl
    simp at hl'
    have a1 : fX1_aboutAct st 0 1 = some (gD r 1) := c_topAct hS (j := 1) (by decide)
    rw [if_neg (show ¬ nI (sk0 ++ [r]).length ≤ 0 from nI_nle (by simp) (by simp; omega)), t_full hS d7]
    simp only [Option.bind_some]
    have eM : mayB sa (sk0 ++ [r]) a = (decide ((sk0 ++ [r]).length < 8) && stF sa a && decide (sa (12 + 6 * a + 3) = 1) && !decide (gD r 1 = nI a)) := by
      unfold mayB; simp
    rw [eM]
    by_cases z : (sk0 ++ [r]).length = 8
    · rw [if_neg (fun q => (bI0.mp q) z), J24, decide_eq_false (show ¬ (sk0 ++ [r]).length < 8 by omega)]
      rfl
    · rw [if_pos (bI0.mpr z), fX1_canAnswer_J25, c_stands h.1 ha, a3, fX1_canAnswer_J51, fX1_canAnswer_J52, fX1_canAnswer_J52, a1, decide_eq_true (show (sk0 ++ [r]).length < 8 by omega)]
      simp only [Option.bind_some]
      cases hs : stF sa a with
      | false => simp [bI]
      | true =>
        by_cases y : sa (12 + 6 * a + 3) = 1
        · by_cases x : gD r 1 = nI a <;> simp [bI, x, y]
        · simp [bI, y]
theorem may_ok (h : GX n sa es fl sk ft er li st) {a : Nat} (ha : a < n) : fX5_mayAnswer ft st (nI a) = some (mayB sa sk a) := by
  rw [fX5_mayAnswer, rf_ok h.1 ha, can_ok h ha]
  rfl
/-! the hash -/
theorem dgF20 (h : GX n sa es fl sk ft er li st) {a : Nat} (ha : a < n) (hfu : 2000 < fu) : ∀ (d j k : Nat) (v : Int64), j + d = 9 → d < k → ∃ v', fX5_withFighters_L20 fu ft er li (nI a) k v (nI j) = some v'
  | 0, j, k + 1, v, hd, hk => ⟨v, by rw [fX5_withFighters_L20, if_pos (show (8 : Int32) < nI j from nI_lt (a := 8) (by omega) (by omega))]⟩
  | d + 1, j, k + 1, v, hd, hk => by
    rw [fX5_withFighters_L20, if_neg (show ¬ (8 : Int32) < nI j from nI_nlt (a := 8) (by omega) (by omega)), ab_ok h ha _ hfu]
    simp only [Option.bind_some, nS]
    exact dgF20 h ha hfu d (j + 1) k _ (by omega) (by omega)
theorem dgF (h : GX n sa es fl sk ft er li st) (hfu : 2000 < fu) : ∀ (d i k : Nat) (v : Int64), i + d = n → d < k → ∃ v', fX5_withFighters_L5 fu ft er li k v (nI i) = some v'
  | 0, i, k + 1, v, hd, hk => ⟨v, by
    have hn := h.n10
    rw [fX5_withFighters_L5, fX1_fighterCount, h.1.cnt]; simp only [Option.bind_some]; rw [if_pos (nI_le (by omega) (by omega))]⟩
  | d + 1, i, k + 1, v, hd, hk => by
    have hn := h.n10
    rw [fX5_withFighters_L5, fX1_fighterCount, h.1.cnt]
    simp only [Option.bind_some]
    rw [if_neg (nI_ge (by omega) (by omega))]
    obtain ⟨v', e⟩ := dgF20 (fu := fu) h (show i < n by omega) hfu 9 0 fu v rfl (by omega)
    have e : fX5_withFighters_L20 fu ft er li (nI i) fu v 0 = some v' := e
    rw [e]
    simp only [Option.bind_some, nS]
    exact dgF h hfu d (i + 1) k v' (by omega) (by omega)
theorem dgE20 (h : GX n sa es fl sk ft er li st) {e : Nat} {r : Row} (he : es[e]? = some r) : ∀ (d j k : Nat) (v : Int64), j + d = 7 → d < k → ∃ v', fX5_withEffects_L20 fu er (nI e) k v (nI j) = some v'
  | 0, j, k + 1, v, hd, hk => ⟨v, by rw [fX5_withEffects_L20, if_pos (show (6 : Int32) < nI j from nI_lt (a := 6) (by omega) (by omega))]⟩
  | d + 1, j, k + 1, v, hd, hk => by
    rw [fX5_withEffects_L20, if_neg (show ¬ (6 : Int32) < nI j from nI_nlt (a := 6) (by omega) (by omega)), fX1_aboutEffect, fX0_about, h.2.1.at he (show j < 8 by omega)]
    simp only [Option.bind_some, nS]
    exact dgE20 h he d (j + 1) k _ (by omega) (by omega)
theorem dgE (h : GX n sa es fl sk ft er li st) (hfu : 2000 < fu) : ∀ (d i k : Nat) (v : Int64), i + d = es.length → d < k → ∃ v', fX5_withEffects_L5 fu er k v (nI i) = some v'
  | 0, i, k + 1, v, hd, hk => ⟨v, by
    have hn := h.2.1.le
    rw [fX5_withEffects_L5, fX1_effectCount, fX0_count, h.2.1.cnt]; simp only [Option.bind_some]; rw [if_pos (nI_le (by omega) (by omega))]⟩
  | d + 1, i, k + 1, v, hd, hk => by
    have hn := h.2.1.le
    rw [fX5_withEffects_L5, fX1_effectCount, fX0_count, h.2.1.cnt]
    simp only [Option.bind_some]
    rw [if_neg (nI_ge (by omega) (by omega))]
    obtain ⟨v', e⟩ := dgE20 (fu := fu) h (List.getElem?_eq_getElem (show i < es.length by omega)) 7 0 fu v rfl (by omega)
    have e : fX5_withEffects_L20 fu er (nI i) fu v 0 = some v' := e
    rw [e]
    simp only [Option.bind_some, nS]
    exact dgE h hfu d (i + 1) k v' (by omega) (by omega)
theorem dgS20 (h : GX n sa es fl sk ft er li st) {i : Nat} (hi : i < sk.length) : ∀ (d j k : Nat) (v : Int64), j + d = 4 → d < k → ∃ v', fX5_withStack_L20 fu st (nI i) k v (nI j) = some v'
  | 0, j, k + 1, v, hd, hk => ⟨v, by rw [fX5_withStack_L20, if_pos (show (3 : Int32) < nI j from nI_lt (a := 3) (by omega) (by omega))]⟩
  | d + 1, j, k + 1, v, hd, hk => by
    have hS := h.2.2.2.1
    obtain ⟨m, hm⟩ : ∃ m, sk.length = m + 1 := ⟨sk.length - 1, by omega⟩
    have hat := t_at (j := j) hS d7 (List.getElem?_eq_getElem (show m - i < sk.length by omega)) (by omega)
    rw [fX5_withStack_L20, if_neg (show ¬ (3 : Int32) < nI j from nI_nlt (a := 3) (by omega) (by omega)), fX1_aboutAct, t_count hS]
    simp only [Option.bind_some]
    rw [hm, nI_pred, pk_sub (show i ≤ m by omega), hat]
    simp only [Option.bind_some, nS]
    exact dgS20 h hi d (j + 1) k _ (by omega) (by omega)
theorem dgS (h : GX n sa es fl sk ft er li st) (hfu : 2000 < fu) : ∀ (d i k : Nat) (v : Int64), i + d = sk.length → d < k → ∃ v', fX5_withStack_L5 fu st k v (nI i) = some v'
  | 0, i, k + 1, v, hd, hk => ⟨v, by
    have hn := h.2.2.2.1.2.2.2.1
    rw [fX5_withStack_L5, fX1_stackSize, t_count h.2.2.2.1]; simp only [Option.bind_some]; rw [if_pos (nI_le (by omega) (by omega))]⟩
  | d + 1, i, k + 1, v, hd, hk => by
    have hn := h.2.2.2.1.2.2.2.1
    rw [fX5_withStack_L5, fX1_stackSize, t_count h.2.2.2.1]
    simp only [Option.bind_some]
    rw [if_neg (nI_ge (by omega) (by omega))]
    obtain ⟨v', e⟩ := dgS20 (fu := fu) h (show i < sk.length by omega) 4 0 fu v rfl (by omega)
    have e : fX5_withStack_L20 fu st (nI i) fu v 0 = some v' := e
    rw [e]
    simp only [Option.bind_some, nS]
    exact dgS h hfu d (i + 1) k v' (by omega) (by omega)
theorem dg57 (eb rd tu sh tb yc : Int32) (tx : Tab) (h : GX n sa es fl sk ft er li st) (hfu : 2000 < fu) : ∀ (d i k : Nat) (v : Int64), i + d = fl.length → d < k → ∃ v', fX5_digest_L57 fu ft er eb li st rd tu sh tb yc tx k v (nI i) = some v'
  | 0, i, k + 1, v, hd, hk => by
    have hl := h.2.2.1.le
    rw [fX5_digest_L57, fX1_listLength, h.2.2.1.cnt]
    simp only [Option.bind_some]
    rw [if_pos (nI_le (by omega) (by omega)), fX5_withStack]
    obtain ⟨v', e⟩ := dgS (fu := fu) h hfu sk.length 0 fu v (by omega) (by have := h.2.2.2.1.2.2.2.1; omega)
    have e : fX5_withStack_L5 fu st fu v 0 = some v' := e
    rw [e]
    exact ⟨_, rfl⟩
  | d + 1, i, k + 1, v, hd, hk => by
    have hl := h.2.2.1.le
    rw [fX5_digest_L57, fX1_listLength, h.2.2.1.cnt]
    simp only [Option.bind_some]
    rw [if_neg (nI_ge (by omega) (by omega)), fX1_listed, h.2.2.1.at0 (List.getElem?_eq_getElem (show i < fl.length by omega))]
    simp only [Option.bind_some, nS]
    exact dg57 eb rd tu sh tb yc tx h hfu d (i + 1) k _ (by omega) (by omega)
theorem dg15 (eb rd tu sh tb yc : Int32) (tx : Tab) (h : GX n sa es fl sk ft er li st) (hfu : 2000 < fu) : ∀ (d j k : Nat) (v : Int64), j + d = 9 → d < k → ∃ v', fX5_digest_L15 fu ft er eb li st rd tu sh tb yc tx k v (nI j) = some v'
  | 0, j, k + 1, v, hd, hk => by
    rw [fX5_digest_L15, if_pos (show (8 : Int32) < nI j from nI_lt (a := 8) (by omega) (by omega)), fX5_withFighters]
    obtain ⟨v1, e1⟩ := dgF (fu := fu) h hfu n 0 fu v (by omega) (by have := h.n10; omega)
    have e1 : fX5_withFighters_L5 fu ft er li fu v 0 = some v1 := e1
    obtain ⟨v2, e2⟩ := dgE (fu := fu) h hfu es.length 0 fu v1 (by omega) (by have := h.2.1.le; omega)
    have e2 : fX5_withEffects_L5 fu er fu v1 0 = some v2 := e2
    obtain ⟨v3, e3⟩ := dg57 (fu := fu) eb rd tu sh tb yc tx h hfu fl.length 0 fu v2 (by omega) (by have := h.2.2.1.le; omega)
    rw [e1]
    simp only [Option.bind_some]
    rw [fX5_withEffects, e2]
    exact ⟨v3, e3⟩
  | d + 1, j, k + 1, v, hd, hk => by
    obtain ⟨x, e⟩ := num_ok (fu := fu) eb rd tu sh tb (nI j) h hfu
    rw [fX5_digest_L15, if_neg (show ¬ (8 : Int32) < nI j from nI_nlt (a := 8) (by omega) (by omega)), e]
    simp only [Option.bind_some, nS]
    exact dg15 eb rd tu sh tb yc tx h hfu d (j + 1) k _ (by omega) (by omega)
theorem dg_ok (eb rd tu sh tb yc : Int32) (tx : Tab) (h : GX n sa es fl sk ft er li st) (hfu : 2000 < fu) : ∃ v, fX5_digest fu ft er eb li st rd tu sh tb yc tx = some v := by
  rw [fX5_digest, fX3_length, fX4_count]
  simp only [Option.bind_some]
  exact dg15 eb rd tu sh tb yc tx h hfu 9 0 fu _ rfl (by omega)
end Q56
