/-! the law -/
section L61
variable {n : Nat} {sa : Nat → Int32} {es : List Row} {fl : List Nat} {sk : List Row} {ft er li st : Tab} {eb rd tu la sh tb : Int32} {dl : Bool} {fu : Nat}
variable {zft zer zli zst : Tab} {zeb zrd ztu zla zsh ztb : Int32} {zdl : Bool}
variable {gft ger gli gst : Tab} {geb grd gtu gla gsh gtb : Int32} {gdl : Bool}
variable {yc : Int32} {yp : Nat → Nat} {yg : Nat → GV}
theorem sub_inj32 {a b c : Int32} (h : a - b = a - c) : b = c := by
  have h2 : -a + (a - b) = -a + (a - c) := by rw [h]
  rw [Int32.sub_eq_add_neg, Int32.sub_eq_add_neg, ← Int32.add_assoc, ← Int32.add_assoc, Int32.add_left_neg, Int32.zero_add, Int32.zero_add] at h2
  have h3 : - -b = - -c := by rw [h2]
  rwa [Int32.neg_neg, Int32.neg_neg] at h3
theorem lgc_0 (x : Int64) : lg_cmp x x = 0 := by
  unfold lg_cmp
  rw [if_neg (show ¬ x > x from Int64.lt_irrefl), if_pos rfl]
/-- the next turn is whose it was said to be -/
theorem t_48 (hG : GK n ft er li st (-1) sh) (hz : GZ zft zer zli zst) (hH : HT yc yp yg) {v2 v3 v4 t0 p1 : Int32} {q : Tab × Tab × Tab × Int32 × Int32 × Int32 × Bool × Int32} (hq : fX1_beginTurn fu ft er li rd (-1) la dl sh tb = some (p1, q)) (hlt : ¬ v4 < t0) (hgo : v2 = 0 → ¬ v4 ≤ 0 → ∃ w, fX5_value fu ft er eb st rd (-1) sh tb 8 = some w ∧ ¬ w = v3) (hfu : 2000 < fu) :
    ∃ ft' er' li' rd' tu' la' dl' tb' z' yc' yp' yg', fL_comesTrue_J48 fu ft eb li st rd la dl sh tb p1 er (-1) zft zer zeb zli zst zrd ztu zla zdl zsh ztb yc yp yg v2 v3 v4 t0 = some (true, ft', er', li', rd', tu', la', dl', tb', z'.1, z'.2.1, z'.2.2.1, z'.2.2.2.1, z'.2.2.2.2.1, z'.2.2.2.2.2.1, z'.2.2.2.2.2.2.1, z'.2.2.2.2.2.2.2.1, z'.2.2.2.2.2.2.2.2.1, z'.2.2.2.2.2.2.2.2.2.1, z'.2.2.2.2.2.2.2.2.2.2, yc', yp', yg') ∧ GK n ft' er' li' st tu' sh ∧ GVZ z' ∧ HT yc' yp' yg' := by
  obtain ⟨x, ft', er', li', rd', tu', la', dl', tb', -, x1, x2, x3⟩ := next_ok (eb := eb) (rd := rd) (la := la) (dl := dl) (tb := tb) (fu := fu) hG hfu
  obtain ⟨c', yc', yp', yg', s1, s2, -⟩ := save_ok (fu := fu) (eb := eb) (rd := rd) (tu := -1) (la := la) (dl := dl) (sh := sh) (tb := tb) hG.z hH hfu
  have hx := x3 _ _ _ _ _ _ s1
  have e : x = p1 := by
    have := x2.symm.trans hq
    injection this with this
    injection this
  subst e
  refine ⟨ft', er', li', rd', tu', la', dl', tb', (zft, zer, zeb, zli, zst, zrd, ztu, zla, zdl, zsh, ztb), yc', yp', yg', ?_, x1, hz, c' + 1, s2⟩
  rw [fL_comesTrue_J48, if_neg hlt, hx]
  simp only [Option.bind_some]
  by_cases e0 : v2 = 0
  · rw [if_pos e0]
    by_cases e1 : v4 ≤ 0
    · rw [if_pos e1, if_pos trivial]
    · obtain ⟨w, w1, w2⟩ := hgo e0 e1
      rw [if_neg e1, w1]
      simp only [Option.bind_some]
      rw [if_neg w2, if_pos trivial]
  · rw [if_neg e0, if_pos trivial]
theorem t_17 (h : GX n sa es fl [] ft er li st) (hT : PT sa fl [] tu) (hS : SHk sh) (hz : GZ zft zer zli zst) (hH : HT yc yp yg) {p1 t0 : Int32} {er1 : Tab} {q : Tab × Tab × Tab × Int32 × Int32 × Int32 × Bool × Int32} (h1 : (tu = -1 ∧ er1 = er) ∨ ∃ m, ¬ tu = -1 ∧ fX1_endTurn fu er tu = some (m, er1, -1)) (hq : fX1_beginTurn fu ft er1 li rd (-1) la dl sh tb = some (p1, q)) (hgo : t0 = 0 → 0 < es.length → ¬ tu = -1 ∧ (es.filterMap (cdF tu)).length < es.length) (hfu : 2000 < fu) :
    ∃ ft' er' li' rd' tu' la' dl' tb' z' yc' yp' yg', fL_comesTrue_J17 fu ft er eb li st rd tu la dl sh tb yc yp yg p1 zft zer zeb zli zst zrd ztu zla zdl zsh ztb t0 = some (true, ft', er', li', rd', tu', la', dl', tb', z'.1, z'.2.1, z'.2.2.1, z'.2.2.2.1, z'.2.2.2.2.1, z'.2.2.2.2.2.1, z'.2.2.2.2.2.2.1, z'.2.2.2.2.2.2.2.1, z'.2.2.2.2.2.2.2.2.1, z'.2.2.2.2.2.2.2.2.2.1, z'.2.2.2.2.2.2.2.2.2.2, yc', yp', yg') ∧ GK n ft' er' li' st tu' sh ∧ GVZ z' ∧ HT yc' yp' yg' := by
  have hle := h.2.1.le
  have hn := h.n10
  rw [fL_comesTrue_J17, v_8 eb rd tu sh tb h, v_2 eb rd tu sh tb h, v_4]
  simp only [Option.bind_some]
  rcases hT with ⟨ht, -⟩ | ⟨f, f1, f2, f3, f4⟩
  · subst ht
    have e1 : er1 = er := by
      rcases h1 with w | ⟨m, w, -⟩
      · exact w.2
      · exact absurd rfl w
    subst e1
    rw [if_pos (by decide)]
    refine t_48 ⟨sa, es, fl, [], h, Or.inl ⟨rfl, rfl⟩, hS⟩ hz hH hq (nI_nlt (b := 0) (Nat.zero_le _) (by omega)) (fun a b => ?_) hfu
    rcases Nat.eq_zero_or_pos es.length with w | w
    · rw [w] at b; exact absurd (by decide) b
    · exact absurd rfl (hgo a w).1
  · have hf := h.2.2.2.2.2.2.1.1.2 f f1
    have ht : ¬ tu = -1 := by rw [f2]; exact nI_m1 (by omega)
    obtain ⟨c', yc1, yp1, yg1, s1, s2, -⟩ := save_ok (fu := fu) (eb := eb) (rd := rd) (tu := tu) (la := la) (dl := dl) (sh := sh) (tb := tb) h.z hH hfu
    obtain ⟨m, er', m1, m2, m3, e1, e2, e3⟩ := end_ok (eb := eb) (rd := rd) (la := la) (dl := dl) (tb := tb) (fu := fu) h (Or.inr ⟨f, f1, f2, f3, f4⟩) hS ht hfu
    have he : er' = er1 := by
      rcases h1 with w | ⟨m', -, w⟩
      · exact absurd w.1 ht
      · have := e2.symm.trans w
        injection this with this
        injection this with _ this
        injection this
    subst he
    rw [if_neg (show ¬ tu < 0 by rw [f2]; exact nI_pos (by omega)), e3 _ _ _ _ _ _ s1]
    simp only [Option.bind_some]
    refine t_48 ⟨sa, _, fl, [], e1, Or.inl ⟨rfl, rfl⟩, hS⟩ hz ⟨_, s2⟩ hq (nI_nlt m1 (by omega)) (fun a b => ⟨_, v_8 eb rd (-1) sh tb e1, fun w => ?_⟩) hfu
    rcases Nat.eq_zero_or_pos es.length with u | u
    · rw [u] at b; exact absurd (by decide) b
    · have := (nI_inj (by omega) (by omega)).mp (sub_inj32 w)
      have := (hgo a u).2
      omega
theorem true_ok (h : GX n sa es fl [] ft er li st) (hT : PT sa fl [] tu) (hS : SHk sh) (hz : GZ zft zer zli zst) (hH : HT yc yp yg) {p1 : Int32} {er1 : Tab} {q : Tab × Tab × Tab × Int32 × Int32 × Int32 × Bool × Int32} (h1 : (tu = -1 ∧ er1 = er) ∨ ∃ m, ¬ tu = -1 ∧ fX1_endTurn fu er tu = some (m, er1, -1)) (hq : fX1_beginTurn fu ft er1 li rd (-1) la dl sh tb = some (p1, q)) (hfu : 2000 < fu) :
    ∃ ft' er' li' rd' tu' la' dl' tb' z' yc' yp' yg', fL_comesTrue fu ft er eb li st rd tu la dl sh tb zft zer zeb zli zst zrd ztu zla zdl zsh ztb yc yp yg p1 = some (true, ft', er', li', rd', tu', la', dl', tb', z'.1, z'.2.1, z'.2.2.1, z'.2.2.2.1, z'.2.2.2.2.1, z'.2.2.2.2.2.1, z'.2.2.2.2.2.2.1, z'.2.2.2.2.2.2.2.1, z'.2.2.2.2.2.2.2.2.1, z'.2.2.2.2.2.2.2.2.2.1, z'.2.2.2.2.2.2.2.2.2.2, yc', yp', yg') ∧ GK n ft' er' li' st tu' sh ∧ GVZ z' ∧ HT yc' yp' yg' := by
  have hle := h.2.1.le
  rw [fL_comesTrue, v_2 eb rd tu sh tb h]
  simp only [Option.bind_some]
  rcases Nat.eq_zero_or_pos es.length with e | e
  · rw [if_pos (show nI es.length ≤ 0 by rw [e]; decide)]
    exact t_17 h hT hS hz hH h1 hq (fun _ w => absurd w (by omega)) hfu
  · obtain ⟨x, z', z1, z2, z3⟩ := gone_ok (fu := fu) (eb := eb) (rd := rd) (tu := tu) (la := la) (dl := dl) (sh := sh) (tb := tb) (zeb := zeb) (zrd := zrd) (ztu := ztu) (zla := zla) (zdl := zdl) (zsh := zsh) (ztb := ztb) h hz e hfu
    obtain ⟨zft', zer', zeb', zli', zst', zrd', ztu', zla', zdl', zsh', ztb'⟩ := z'
    have fin := t_17 (eb := eb) (zeb := zeb') (zrd := zrd') (ztu := ztu') (zla := zla') (zdl := zdl') (zsh := zsh') (ztb := ztb') h hT hS z1 hH h1 hq (fun w _ => z3 w) hfu
    rw [if_neg (show ¬ nI es.length ≤ 0 from nI_nle e (by omega)), z2, Option.bind_some]
    exact fin
theorem l_271 {xL : Nat} {xs : Nat → Int32} {tx cm : Tab} {v2 v11 v13 : Int32} {v7 : Int64} (h : GX n sa es fl sk ft er li st) (hfu : 2000 < fu) : ∀ (d k kk : Nat), k + d = n → d < kk → fL_law_L271 fu xL xs tx cm ft er eb li st rd tu la dl sh tb zft zer zeb zli zst zrd ztu zla zdl zsh ztb yc yp yg v2 v7 v11 v13 kk (sumL sa k) (nI k) = some (sumL sa n)
  | 0, k, kk + 1, hd, hkk => by
    have hn := h.n10
    have e : k = n := by omega
    subst e
    rw [fL_law_L271, v_0 eb rd tu sh tb h]
    simp only [Option.bind_some]
    rw [if_pos (nI_le (Nat.le_refl _) (by omega))]
  | d + 1, k, kk + 1, hd, hkk => by
    have hn := h.n10
    have b2 : fX5_fighter fu ft er li (nI k) 2 = some (sa (12 + 6 * k + 2)) := f_ok (j := 2) h (show k < n by omega) (by decide) hfu
    rw [fL_law_L271, v_0 eb rd tu sh tb h, b2]
    simp only [Option.bind_some]
    rw [if_neg (nge (show k < n by omega) (by omega)), nS]
    exact l_271 h hfu d (k + 1) kk (by omega) (by omega)
/-- what comes after a step -/
def RecOK (rec : (Tab → Tab → Int32 → Tab → Tab → Int32 → Int32 → Int32 → Bool → Int32 → Int32 → Tab → Tab → Int32 → Tab → Tab → Int32 → Int32 → Int32 → Bool → Int32 → Int32 → Int32 → (Nat → Nat) → (Nat → GV) → Int32 → Option Bool)) (i : Nat) : Prop := ∀ (n : Nat) (ft er : Tab) (eb : Int32) (li st : Tab) (rd tu la : Int32) (dl : Bool) (sh tb : Int32) (zft zer : Tab) (zeb : Int32) (zli zst : Tab) (zrd ztu zla : Int32) (zdl : Bool) (zsh ztb : Int32) (yc : Int32) (yp : Nat → Nat) (yg : Nat → GV), 1 ≤ n → GK n ft er li st tu sh → GZ zft zer zli zst → HT yc yp yg → rec ft er eb li st rd tu la dl sh tb zft zer zeb zli zst zrd ztu zla zdl zsh ztb yc yp yg (nI i + 1) = some true
variable {xL : Nat} {xs : Nat → Int32} {tx cm : Tab}
theorem l_251 {rec : (Tab → Tab → Int32 → Tab → Tab → Int32 → Int32 → Int32 → Bool → Int32 → Int32 → Tab → Tab → Int32 → Tab → Tab → Int32 → Int32 → Int32 → Bool → Int32 → Int32 → Int32 → (Nat → Nat) → (Nat → GV) → Int32 → Option Bool)} {i : Nat} (hrec : RecOK rec i) (h : GX n sa es fl sk ft er li st) (hT : PT sa fl sk tu) (hS : SHk sh) (hn1 : 1 ≤ n) (hz : GZ zft zer zli zst) (hH : HT yc yp yg) {v7 : Int64} {v9 : Int32} {er1 : Tab} {q : Tab × Tab × Tab × Int32 × Int32 × Int32 × Bool × Int32} (h1 : (tu = -1 ∧ er1 = er) ∨ ∃ m, ¬ tu = -1 ∧ fX1_endTurn fu er tu = some (m, er1, -1)) (hq : fX1_beginTurn fu ft er1 li rd (-1) la dl sh tb = some (v9, q)) {v : Nat} {ft' er' st' : Tab} {eb' tu' : Int32} {sa' : Nat → Int32} {es' : List Row} (hs : fX1_settleStack fu ft er eb st tu sh = some (nI v, ft', er', eb', st', tu')) (hv : v ≤ 8) (hG' : GX n sa' es' fl [] ft' er' li st') (hfu : 2000 < fu) : fL_law_J251 fu xL xs tx cm ft er eb li st rd tu la dl sh tb zft zer zeb zli zst zrd ztu zla zdl zsh ztb yc yp yg (nI i) v7 v9 (sumL sa' n) rec = some true := by
  have hl8 := h.2.2.2.1.2.2.2.1
  have hn := h.n10
  rw [fL_law_J251, v_5 eb rd tu sh tb h]
  simp only [Option.bind_some]
  by_cases e : sk = []
  · subst e
    obtain ⟨ft', er', li', rd', tu', la', dl', tb', z', yc', yp', yg', r1, r2, r3, r4⟩ := true_ok (eb := eb) (zeb := zeb) (zrd := zrd) (ztu := ztu) (zla := zla) (zdl := zdl) (zsh := zsh) (ztb := ztb) h hT hS hz hH h1 hq hfu
    rw [if_pos (show nI ([] : List Row).length ≤ 0 by decide), r1]
    simp only [Option.bind_some]
    rw [if_neg bI_t]
    exact hrec _ _ _ _ _ _ _ _ _ _ _ _ _ _ _ _ _ _ _ _ _ _ _ _ _ _ hn1 r2 r3 r4
  · have hp : 0 < sk.length := List.length_pos_iff.mpr e
    obtain ⟨c', yc', yp', yg', s1, s2, s3⟩ := save_ok (fu := fu) (eb := eb) (rd := rd) (tu := tu) (la := la) (dl := dl) (sh := sh) (tb := tb) h.z hH hfu
    have l : fL_law_L271 fu xL xs tx cm ft' er' eb' li st' rd tu' la dl sh tb zft zer zeb zli zst zrd ztu zla zdl zsh ztb yc' yp' yg' (nI i) v7 (sumL sa' n) (nI v) fu 0 0 = some (sumL sa' n) := l_271 hG' hfu n 0 fu (by omega) (by omega)
    obtain ⟨u1, u2⟩ := undo_ok (eb := eb') (rd := rd) (tu := tu') (la := la) (dl := dl) (sh := sh) (tb := tb) hG'.z s2 s3
    obtain ⟨x, hx⟩ := dg_ok eb rd tu sh tb (nI c') tx h hfu
    have hc := s2.1
    rw [if_neg (show ¬ nI sk.length ≤ 0 from nI_nle hp (by omega)), settle_go h e hs _ _ _ _ _ _ s1]
    simp only [Option.bind_some]
    rw [l]
    simp only [Option.bind_some, if_true]
    rw [if_neg (nI_pos (by omega)), u1]
    simp only [Option.bind_some]
    rw [if_neg (nI_pos (by omega)), hx]
    simp only [Option.bind_some]
    have hr := hrec n ft er eb li st rd tu la dl sh tb zft zer zeb zli zst zrd ztu zla zdl zsh ztb (nI c') yp' yg' hn1 ⟨sa, es, fl, sk, h, hT, hS⟩ hz ⟨c', u2⟩
    by_cases w : lg_cmp x v7 = 0
    · rw [if_pos w]; exact hr
    · rw [if_neg w, v_5 eb rd tu sh tb h]
      simp only [Option.bind_some]
      rw [if_neg (nI_ne0 hp (by omega))]
      exact hr
theorem l_174 {rec : (Tab → Tab → Int32 → Tab → Tab → Int32 → Int32 → Int32 → Bool → Int32 → Int32 → Tab → Tab → Int32 → Tab → Tab → Int32 → Int32 → Int32 → Bool → Int32 → Int32 → Int32 → (Nat → Nat) → (Nat → GV) → Int32 → Option Bool)} {i : Nat} (hrec : RecOK rec i) (h : GK n ft er li st tu sh) (hn1 : 1 ≤ n) (hz : GZ zft zer zli zst) (hH : HT yc yp yg) (hfu : 2000 < fu) : fL_law_J174 fu xL xs tx cm ft er eb li st rd tu la dl sh tb zft zer zeb zli zst zrd ztu zla zdl zsh ztb yc yp yg (nI i) rec = some true := by
  have hr := hrec n ft er eb li st rd tu la dl sh tb zft zer zeb zli zst zrd ztu zla zdl zsh ztb yc yp yg hn1 h hz hH
  obtain ⟨sa, es, fl, sk, h, hT, hS⟩ := h
  have hn := h.n10
  rw [fL_law_J174]
  by_cases c : (nI i - nI i / (5 : Int32) * (5 : Int32)) = (4 : Int32)
  · rw [if_pos c]
    obtain ⟨x9, hx⟩ := dg_ok eb rd tu sh tb yc tx h hfu
    obtain ⟨x10, z1, a1, a2, a3, er1, a4, q, a5⟩ := up0_ok (fu := fu) (eb := eb) (rd := rd) (tu := tu) (la := la) (dl := dl) (sh := sh) (tb := tb) (zeb := zeb) (zrd := zrd) (ztu := ztu) (zla := zla) (zdl := zdl) (zsh := zsh) (ztb := ztb) h hz hfu
    obtain ⟨x11, z2, b1, b2, b3⟩ := up_ok (fu := fu) (eb := eb) (rd := rd) (tu := tu) (la := la) (dl := dl) (sh := sh) (tb := tb) (m := 2) (zeb := z1.2.2.1) (zrd := z1.2.2.2.2.2.1) (ztu := z1.2.2.2.2.2.2.1) (zla := z1.2.2.2.2.2.2.2.1) (zdl := z1.2.2.2.2.2.2.2.2.1) (zsh := z1.2.2.2.2.2.2.2.2.2.1) (ztb := z1.2.2.2.2.2.2.2.2.2.2) h a1 (by decide) hfu
    obtain ⟨v, ft', er', eb', st', tu', s1, s2, sa', es', s3, s4⟩ := h.settle (fu := fu) eb sh hT.w hfu
    have lf := life_ok (rd := rd) (la := la) (dl := dl) (tb := tb) (zeb := z2.2.2.1) (zrd := z2.2.2.2.2.2.1) (ztu := z2.2.2.2.2.2.2.1) (zla := z2.2.2.2.2.2.2.2.1) (zdl := z2.2.2.2.2.2.2.2.2.1) (zsh := z2.2.2.2.2.2.2.2.2.2.1) (ztb := z2.2.2.2.2.2.2.2.2.2.2) h b1 s1 s3 hfu
    have b2 : fX5_upcoming fu ft er eb li st rd tu la dl sh tb z1.1 z1.2.1 z1.2.2.1 z1.2.2.2.1 z1.2.2.2.2.1 z1.2.2.2.2.2.1 z1.2.2.2.2.2.2.1 z1.2.2.2.2.2.2.2.1 z1.2.2.2.2.2.2.2.2.1 z1.2.2.2.2.2.2.2.2.2.1 z1.2.2.2.2.2.2.2.2.2.2 2 = some (x11, z2) := b2
    have fin := l_251 (xL := xL) (xs := xs) (tx := tx) (cm := cm) (zft := ft') (zer := er') (zeb := eb') (zli := li) (zst := st') (zrd := rd) (ztu := tu') (zla := la) (zdl := dl) (zsh := sh) (ztb := tb) (v7 := x9) hrec h hT hS hn1 s3.z hH a4 a5 s1 s2 s3 hfu
    rw [hx, a2]
    simp only [Option.bind_some]
    rw [b2]
    simp only [Option.bind_some]
    rw [lf]
    simp only [Option.bind_some, lgc_0, if_true]
    rcases a3 with ⟨e, e2⟩ | ⟨f, f1, f2⟩
    · have e3 : ¬ (0 : Int32) ≤ x10 := by rw [e]; decide
      rw [if_neg e3, v_1 eb rd tu sh tb h hfu, cntS_0 n e2]
      simp only [Option.bind_some]
      rw [if_pos (by decide), fL_law_J239, if_neg e3, if_pos (show x11 < 0 by rw [b3 e2]; decide)]
      exact fin
    · have e3 : (0 : Int32) ≤ x10 := by rw [f2]; exact nI_pos' (by omega)
      rw [if_pos e3, fL_law_J239, if_pos e3]
      exact fin
  · rw [if_neg c]
    exact hr
/-- a step: nothing, or an act that may be undone and done again -/
theorem l_120 {rec : (Tab → Tab → Int32 → Tab → Tab → Int32 → Int32 → Int32 → Bool → Int32 → Int32 → Tab → Tab → Int32 → Tab → Tab → Int32 → Int32 → Int32 → Bool → Int32 → Int32 → Int32 → (Nat → Nat) → (Nat → GV) → Int32 → Option Bool)} {i : Nat} {v3 v6 : Int32} (hrec : RecOK rec i) (h : GK n ft er li st tu sh) (hn1 : 1 ≤ n) (hz : GZ zft zer zli zst) (hH : HT yc yp yg) (hd : v6 = -200 ∨ (∃ (c : Nat) (gft ger : Tab) (geb : Int32) (gli gst : Tab) (grd gtu gla : Int32) (gdl : Bool) (gsh gtb : Int32), HK (fun _ => True) (c + 1) yc yp yg ∧ yg (yp c) = (gft, ger, geb, gli, gst, grd, gtu, gla, gdl, gsh, gtb) ∧ GZ gft ger gli gst ∧ ∀ yc yp yg yc' yp' yg', fX2_save fu yc yp yg gft ger geb gli gst grd gtu gla gdl gsh gtb = some (yc', yp', yg') → fL_act fu gft ger geb gli gst grd gtu gla gdl gsh gtb yc yp yg v3 = some (v6, ft, er, eb, li, st, rd, tu, la, dl, sh, tb, yc', yp', yg'))) (hfu : 2000 < fu) : fL_law_J120 fu xL xs tx cm ft er eb li st rd tu la dl sh tb zft zer zeb zli zst zrd ztu zla zdl zsh ztb yc yp yg (nI i) v3 v6 rec = some true := by
  have h0 := h
  obtain ⟨sa, es, fl, sk, h, hT, hS⟩ := h
  obtain ⟨z', r1, r2⟩ := right_ok (fu := fu) (eb := eb) (rd := rd) (la := la) (dl := dl) (sh := sh) (tb := tb) (zeb := zeb) (zrd := zrd) (ztu := ztu) (zla := zla) (zdl := zdl) (zsh := zsh) (ztb := ztb) h hT hz hfu
  have fin := fun (z : GV) (hz : GVZ z) (yc : Int32) (yp : Nat → Nat) (yg : Nat → GV) (hH : HT yc yp yg) => l_174 (xL := xL) (xs := xs) (tx := tx) (cm := cm) (eb := eb) (rd := rd) (la := la) (dl := dl) (tb := tb) (zeb := z.2.2.1) (zrd := z.2.2.2.2.2.1) (ztu := z.2.2.2.2.2.2.1) (zla := z.2.2.2.2.2.2.2.1) (zdl := z.2.2.2.2.2.2.2.2.1) (zsh := z.2.2.2.2.2.2.2.2.2.1) (ztb := z.2.2.2.2.2.2.2.2.2.2) hrec h0 hn1 hz hH hfu
  rw [fL_law_J120, r2]
  simp only [Option.bind_some]
  rw [if_neg bI_t]
  by_cases e : v6 = -200
  · rw [if_pos e]
    exact fin z' r1 yc yp yg hH
  · rw [if_neg e]
    by_cases c : (nI i &&& (3 : Int32)) = (1 : Int32)
    · rw [if_pos c]
      rcases hd with q | ⟨c, gft, ger, geb, gli, gst, grd, gtu, gla, gdl, gsh, gtb, k1, k2, k3, k4⟩
      · exact absurd q e
      · obtain ⟨u1, u2⟩ := undo_ok (eb := eb) (rd := rd) (tu := tu) (la := la) (dl := dl) (sh := sh) (tb := tb) h.z k1 k2
        have hc := k1.1
        obtain ⟨c', yc', yp', yg', s1, s2, -⟩ := save_ok (fu := fu) (eb := geb) (rd := grd) (tu := gtu) (la := gla) (dl := gdl) (sh := gsh) (tb := gtb) k3 ⟨c, u2⟩ hfu
        obtain ⟨z2, q1, q2⟩ := right_ok (fu := fu) (eb := eb) (rd := rd) (la := la) (dl := dl) (sh := sh) (tb := tb) (zeb := z'.2.2.1) (zrd := z'.2.2.2.2.2.1) (ztu := z'.2.2.2.2.2.2.1) (zla := z'.2.2.2.2.2.2.2.1) (zdl := z'.2.2.2.2.2.2.2.2.1) (zsh := z'.2.2.2.2.2.2.2.2.2.1) (ztb := z'.2.2.2.2.2.2.2.2.2.2) h hT r1 hfu
        rw [u1]
        simp only [Option.bind_some]
        rw [if_neg (nI_pos (by omega)), k4 _ _ _ _ _ _ s1]
        simp only [Option.bind_some, if_true]
        rw [q2]
        simp only [Option.bind_some]
        rw [if_neg bI_t]
        exact fin z2 q1 yc' yp' yg' ⟨_, s2⟩
    · rw [if_neg c]
      exact fin z' r1 yc yp yg hH
theorem l_75 (hxl : xL < 2 ^ 31) (htx : tx.2.2.2 = 0) (hfu : 2000 < fu) : ∀ (d i k n : Nat) (ft er : Tab) (eb : Int32) (li st : Tab) (rd tu la : Int32) (dl : Bool) (sh tb : Int32) (zft zer : Tab) (zeb : Int32) (zli zst : Tab) (zrd ztu zla : Int32) (zdl : Bool) (zsh ztb : Int32) (yc : Int32) (yp : Nat → Nat) (yg : Nat → GV), i + d = 17 → d < k → 1 ≤ n → GK n ft er li st tu sh → GZ zft zer zli zst → HT yc yp yg → fL_law_L75 fu xL xs tx cm k ft er eb li st rd tu la dl sh tb zft zer zeb zli zst zrd ztu zla zdl zsh ztb yc yp yg (nI i) = some true
  | 0, i, k + 1, n, ft, er, eb, li, st, rd, tu, la, dl, sh, tb, zft, zer, zeb, zli, zst, zrd, ztu, zla, zdl, zsh, ztb, yc, yp, yg, hd, hk, hn1, h, hz, hH => by
    obtain ⟨sa, es, fl, sk, h, hT, hS⟩ := h
    obtain ⟨z', r1, r2⟩ := right_ok (fu := fu) (eb := eb) (rd := rd) (la := la) (dl := dl) (sh := sh) (tb := tb) (zeb := zeb) (zrd := zrd) (ztu := ztu) (zla := zla) (zdl := zdl) (zsh := zsh) (ztb := ztb) h hT hz hfu
    obtain ⟨r, c1, c2⟩ := carry_ok (fu := fu) (cm := cm) (eb := eb) (rd := rd) (tu := tu) (la := la) (dl := dl) (sh := sh) (tb := tb) (zeb := z'.2.2.1) (zrd := z'.2.2.2.2.2.1) (ztu := z'.2.2.2.2.2.2.1) (zla := z'.2.2.2.2.2.2.2.1) (zdl := z'.2.2.2.2.2.2.2.2.1) (zsh := z'.2.2.2.2.2.2.2.2.2.1) (ztb := z'.2.2.2.2.2.2.2.2.2.2) h.z r1 hH htx hfu
    rw [fL_law_L75, if_pos (show (17 : Int32) ≤ nI i from nI_le (a := 17) (by omega) (by omega)), r2]
    simp only [Option.bind_some]
    rw [if_neg bI_t, c1]
    simp only [Option.bind_some]
    rw [if_pos c2]
  | d + 1, i, k + 1, n, ft, er, eb, li, st, rd, tu, la, dl, sh, tb, zft, zer, zeb, zli, zst, zrd, ztu, zla, zdl, zsh, ztb, yc, yp, yg, hd, hk, hn1, h, hz, hH => by
    have hrec : RecOK (fun ft er eb li st rd tu la dl sh tb zft zer zeb zli zst zrd ztu zla zdl zsh ztb yc yp yg v2 => fL_law_L75 fu xL xs tx cm k ft er eb li st rd tu la dl sh tb zft zer zeb zli zst zrd ztu zla zdl zsh ztb yc yp yg v2) i := by
      intro n ft er eb li st rd tu la dl sh tb zft zer zeb zli zst zrd ztu zla zdl zsh ztb yc yp yg a1 a2 a3 a4
      show fL_law_L75 fu xL xs tx cm k ft er eb li st rd tu la dl sh tb zft zer zeb zli zst zrd ztu zla zdl zsh ztb yc yp yg (nI i + 1) = some true
      rw [nS]
      exact l_75 hxl htx hfu d (i + 1) k n ft er eb li st rd tu la dl sh tb zft zer zeb zli zst zrd ztu zla zdl zsh ztb yc yp yg (by omega) (by omega) a1 a2 a3 a4
    have h0 := h
    obtain ⟨x5, e5⟩ := cell_ok xs hxl (show 3 + i < 2 ^ 31 by omega)
    have e5 : fL_cell xL xs ((3 : Int32) + nI i) = some x5 := by rw [show (3 : Int32) + nI i = nI (3 + i) from nI_add 3 i]; exact e5
    have hd6 : ∃ x, fX5_digest fu ft er eb li st rd tu sh tb yc tx = some x := by
      obtain ⟨sa, es, fl, sk, h, hT, hS⟩ := h
      exact dg_ok eb rd tu sh tb yc tx h hfu
    obtain ⟨x6, e6⟩ := hd6
    rw [fL_law_L75, if_neg (show ¬ (17 : Int32) ≤ nI i from nI_ge (b := 17) (by omega) (by decide)), e5, e6]
    simp only [Option.bind_some]
    rcases act_ok (eb := eb) (rd := rd) (la := la) (dl := dl) (tb := tb) h hn1 x5 hfu with a | ⟨got, n', ft', er', eb', li', st', rd', tu', la', dl', sh', tb', b1, b2, b3, b4⟩
    · have a : fL_act fu ft er eb li st rd tu la dl sh tb yc yp yg x5 = some (-200, ft, er, eb, li, st, rd, tu, la, dl, sh, tb, yc, yp, yg) := a yc yp yg
      rw [a]
      simp only [Option.bind_some, if_true]
      rw [e6]
      simp only [Option.bind_some, lgc_0, if_true]
      exact l_120 hrec h0 hn1 hz hH (Or.inl rfl) hfu
    · obtain ⟨c', yc', yp', yg', s1, s2, s3⟩ := save_ok (fu := fu) (eb := eb) (rd := rd) (tu := tu) (la := la) (dl := dl) (sh := sh) (tb := tb) h.z hH hfu
      have b : fL_act fu ft er eb li st rd tu la dl sh tb yc yp yg x5 = some (got, ft', er', eb', li', st', rd', tu', la', dl', sh', tb', yc', yp', yg') := b4 _ _ _ _ _ _ s1
      rw [b]
      simp only [Option.bind_some]
      rw [if_neg b3]
      exact l_120 hrec b2 (by omega) hz ⟨_, s2⟩ (Or.inr ⟨c', ft, er, eb, li, st, rd, tu, la, dl, sh, tb, s2, s3, h.z, fun yc yp yg yc' yp' yg' hs => b4 yc yp yg yc' yp' yg' hs⟩) hfu
/-- the fighters of the law -/
theorem l_10b (hxl : xL < 2 ^ 31) (htx : tx.2.2.2 = 0) (hz : GZ zft zer zli zst) (hfu : 2000 < fu) (k : Nat) (h : GK 3 ft er li st (-1) sh) (hst : ∃ sa, FC ft sa 3 ∧ stF sa 2 = true) (hH : HT yc yp yg) : fL_law_L10 fu xL xs er eb li st 0 (-1) la dl sh tb zft zer zeb zli zst zrd ztu zla zdl zsh ztb tx cm (k + 1) ft yc yp yg (nI 3) = some true := by
  obtain ⟨sa, g1, g2⟩ := hst
  obtain ⟨x, ft', er', li', rd', tu', la', dl', tb', x1, x2, -, x3⟩ := next_ok (eb := eb) (rd := 0) (la := la) (dl := dl) (tb := tb) (fu := fu) h hfu
  obtain ⟨c', yc', yp', yg', s1, s2, -⟩ := save_ok (fu := fu) (eb := eb) (rd := 0) (tu := -1) (la := la) (dl := dl) (sh := sh) (tb := tb) h.z hH hfu
  rw [fL_law_L10, if_pos (by decide), v_3]
  simp only [Option.bind_some, if_true]
  rw [x3 _ _ _ _ _ _ s1]
  simp only [Option.bind_some]
  rcases x1 with ⟨-, sa2, q1, q2⟩ | ⟨f, f1, f2⟩
  · have w := q2 2 (by decide)
    rw [← q1.same g1 (by decide), g2] at w
    cases w
  · rw [if_pos (by rw [f2]; exact nI_pos' (by omega))]
    have z : fL_law_L75 fu xL xs tx cm fu ft' er' eb li' st rd' tu' la' dl' sh tb' zft zer zeb zli zst zrd ztu zla zdl zsh ztb yc' yp' yg' 0 = some true := l_75 hxl htx hfu 17 0 fu 3 ft' er' eb li' st rd' tu' la' dl' sh tb' zft zer zeb zli zst zrd ztu zla zdl zsh ztb yc' yp' yg' rfl (by omega) (by decide) x2 hz ⟨_, s2⟩
    exact z
end L61
