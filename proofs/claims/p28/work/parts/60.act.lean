/-! an act of the law -/
theorem low_ok (p : Int32) {m : Nat} (h0 : 0 < m) (hm : m < 2 ^ 31) : ∃ j, j < m ∧ fL_low p (nI m) = some (nI j) := by
  obtain ⟨w, w1, w2⟩ := pk_andE p (m := 2147483647) 31 (by decide)
  refine ⟨w % m, Nat.mod_lt _ h0, ?_⟩
  rw [fL_low, if_pos (nI_ne0 h0 hm), w2, pk_rem (by omega) h0 hm]
theorem cell_ok {xL : Nat} (xs : Nat → Int32) (hx : xL < 2 ^ 31) {i : Nat} (hi : i < 2 ^ 31) : ∃ x, fL_cell xL xs (nI i) = some x := by
  rw [fL_cell]
  by_cases c : nI i < Int32.ofNat xL
  · have hl : i < xL := by
      rcases Nat.lt_or_ge i xL with q | q
      · exact q
      · exact absurd c (nI_nlt q hi)
    rw [if_pos c, if_pos (show ¬ (nI i < 0 ∨ xL ≤ (nI i).toNatClampNeg) from vp_in_nI hl hx)]
    exact ⟨_, rfl⟩
  · rw [if_neg c]
    exact ⟨_, rfl⟩
theorem n1A (j : Nat) : (1 : Int32) + nI j = nI (1 + j) := nI_add 1 j
theorem n30A (j : Nat) : (30 : Int32) + nI j = nI (30 + j) := nI_add 30 j
def AB (fu n : Nat) (ft er : Tab) (eb : Int32) (li st : Tab) (rd tu la : Int32) (dl : Bool) (sh tb : Int32) (F : Int32 → (Nat → Nat) → (Nat → GV) → Option (Int32 × Tab × Tab × Int32 × Tab × Tab × Int32 × Int32 × Int32 × Bool × Int32 × Int32 × Int32 × (Nat → Nat) × (Nat → GV))) : Prop :=
  (∀ yc yp yg, F yc yp yg = some (-200, ft, er, eb, li, st, rd, tu, la, dl, sh, tb, yc, yp, yg)) ∨ ∃ got n' ft' er' eb' li' st' rd' tu' la' dl' sh' tb', n ≤ n' ∧ GK n' ft' er' li' st' tu' sh' ∧ got ≠ -200 ∧ ∀ yc yp yg yc' yp' yg', fX2_save fu yc yp yg ft er eb li st rd tu la dl sh tb = some (yc', yp', yg') → F yc yp yg = some (got, ft', er', eb', li', st', rd', tu', la', dl', sh', tb', yc', yp', yg')
section A60
variable {n : Nat} {sa : Nat → Int32} {es : List Row} {fl : List Nat} {sk : List Row} {ft er li st : Tab} {eb rd tu la sh tb : Int32} {dl : Bool} {fu : Nat}
theorem AB.same {F F' : Int32 → (Nat → Nat) → (Nat → GV) → Option (Int32 × Tab × Tab × Int32 × Tab × Tab × Int32 × Int32 × Int32 × Bool × Int32 × Int32 × Int32 × (Nat → Nat) × (Nat → GV))} (h : ∀ yc yp yg, F yc yp yg = F' yc yp yg) (hA : AB fu n ft er eb li st rd tu la dl sh tb F') : AB fu n ft er eb li st rd tu la dl sh tb F := by
  have e : F = F' := funext fun yc => funext fun yp => funext fun yg => h yc yp yg
  rw [e]; exact hA
theorem A_none : AB fu n ft er eb li st rd tu la dl sh tb (fun yc yp yg => some (-200, ft, er, eb, li, st, rd, tu, la, dl, sh, tb, yc, yp, yg)) := Or.inl (fun _ _ _ => rfl)
theorem comes_ok (h : GX n sa es fl sk ft er li st) {a : Nat} (ha : a < n) (hfu : 2000 < fu) (yc : Int32) (yp : Nat → Nat) (yg : Nat → GV) : fL_comes fu ft er eb li st rd tu la dl sh tb yc yp yg (nI a) = some (-200, li, tu, la, dl, yc, yp, yg) := by
  have b5 : fX5_fighter fu ft er li (nI a) 5 = some (stOf sa fl a) := f_ok (j := 5) h ha (by decide) hfu
  have hst : ¬ stOf sa fl a = 2 := by
    rw [stOf]
    split
    · rename_i hm
      rcases h.2.2.2.2.2.2.1.2.2 a hm with q | q <;> rw [q] <;> decide
    · decide
  rw [fL_comes, v_4, b5, fL_comes_J32, fL_comes_J33]
  simp only [Option.bind_some]
  rw [if_neg hst, if_pos bI_ff]
  split <;> rfl
theorem A_comes (h : GX n sa es fl sk ft er li st) {a : Nat} (ha : a < n) (hfu : 2000 < fu) : AB fu n ft er eb li st rd tu la dl sh tb (fun yc yp yg => (fL_comes fu ft er eb li st rd tu la dl sh tb yc yp yg (nI a)).bind fun x => some (x.1, ft, er, eb, x.2.1, st, rd, x.2.2.1, x.2.2.2.1, x.2.2.2.2.1, sh, tb, x.2.2.2.2.2.1, x.2.2.2.2.2.2.1, x.2.2.2.2.2.2.2)) := by
  refine Or.inl (fun yc yp yg => ?_)
  show (fL_comes fu ft er eb li st rd tu la dl sh tb yc yp yg (nI a)).bind _ = _
  rw [comes_ok h ha hfu]
  rfl
theorem A_settle (h : GX n sa es fl sk ft er li st) (hT : PT sa fl sk tu) (hS : SHk sh) (hk : ¬ sk = []) (hfu : 2000 < fu) : AB fu n ft er eb li st rd tu la dl sh tb (fun yc yp yg => (fX5_settle fu ft er eb li st rd tu la dl sh tb yc yp yg).bind fun x => some (x.1, x.2.1, x.2.2.1, x.2.2.2.1, li, x.2.2.2.2.1, rd, x.2.2.2.2.2.1, la, dl, sh, tb, x.2.2.2.2.2.2.1, x.2.2.2.2.2.2.2.1, x.2.2.2.2.2.2.2.2)) := by
  obtain ⟨v, ft', er', eb', st', tu', s1, s2, s3⟩ := settle_ok (eb := eb) (rd := rd) (la := la) (dl := dl) (tb := tb) (fu := fu) h hT hS hk hfu
  refine Or.inr ⟨nI v, n, ft', er', eb', li, st', rd, tu', la, dl, sh, tb, Nat.le_refl _, s2, nI_200 (by omega), fun yc yp yg yc' yp' yg' hs => ?_⟩
  show (fX5_settle fu ft er eb li st rd tu la dl sh tb yc yp yg).bind _ = _
  rw [s3 _ _ _ _ _ _ hs]
  rfl
theorem A_end (h : GX n sa es fl [] ft er li st) (hT : PT sa fl [] tu) (hS : SHk sh) (ht : ¬ tu = -1) (hfu : 2000 < fu) : AB fu n ft er eb li st rd tu la dl sh tb (fun yc yp yg => (fX5_end fu ft er eb li st rd tu la dl sh tb yc yp yg).bind fun x => some (x.1, ft, x.2.1, eb, li, st, rd, x.2.2.1, la, dl, sh, tb, x.2.2.2.1, x.2.2.2.2.1, x.2.2.2.2.2)) := by
  have hle := h.2.1.le
  obtain ⟨m, er', m1, m2, m3, e1, e2, e3⟩ := end_ok (eb := eb) (rd := rd) (la := la) (dl := dl) (tb := tb) (fu := fu) h hT hS ht hfu
  refine Or.inr ⟨nI m, n, ft, er', eb, li, st, rd, -1, la, dl, sh, tb, Nat.le_refl _, ⟨sa, _, fl, [], e1, Or.inl ⟨rfl, rfl⟩, hS⟩, nI_200 (by omega), fun yc yp yg yc' yp' yg' hs => ?_⟩
  show (fX5_end fu ft er eb li st rd tu la dl sh tb yc yp yg).bind _ = _
  rw [e3 _ _ _ _ _ _ hs]
  rfl
theorem A_next (h : GK n ft er li st tu sh) (ht : tu = -1) (hfu : 2000 < fu) : AB fu n ft er eb li st rd tu la dl sh tb (fun yc yp yg => (fX5_next fu ft er eb li st rd tu la dl sh tb yc yp yg).bind fun x => some (x.1, x.2.1, x.2.2.1, eb, x.2.2.2.1, st, x.2.2.2.2.1, x.2.2.2.2.2.1, x.2.2.2.2.2.2.1, x.2.2.2.2.2.2.2.1, sh, x.2.2.2.2.2.2.2.2.1, x.2.2.2.2.2.2.2.2.2.1, x.2.2.2.2.2.2.2.2.2.2.1, x.2.2.2.2.2.2.2.2.2.2.2)) := by
  subst ht
  have hn : n ≤ 10 := by
    obtain ⟨sa, es, fl, sk, h, -⟩ := h
    exact h.n10
  obtain ⟨x, ft', er', li', rd', tu', la', dl', tb', x1, x2, -, x3⟩ := next_ok (eb := eb) (rd := rd) (la := la) (dl := dl) (tb := tb) (fu := fu) h hfu
  refine Or.inr ⟨x, n, ft', er', eb, li', st, rd', tu', la', dl', sh, tb', Nat.le_refl _, x2, ?_, fun yc yp yg yc' yp' yg' hs => ?_⟩
  · rcases x1 with x1 | ⟨f, f1, f2⟩
    · rw [x1.1]; decide
    · rw [f2]; exact nI_200 (by omega)
  · show (fX5_next fu ft er eb li st rd (-1) la dl sh tb yc yp yg).bind _ = _
    rw [x3 _ _ _ _ _ _ hs]
    rfl
theorem A_cast (h : GX n sa es fl sk ft er li st) (hT : PT sa fl sk tu) (hS : SHk sh) (ht : ¬ tu = -1) {a t : Nat} (ha : a < n) (htt : t < n) (ho : okAct sa sk tu a 2) (p1 : Int32) (hfu : 2000 < fu) : AB fu n ft er eb li st rd tu la dl sh tb (fun yc yp yg => fL_act_J348 fu ft er eb li st rd tu la dl sh tb yc yp yg p1 (nI t) (nI a)) := by
  obtain ⟨c, c1, c2⟩ := low_ok (p1 >>> ((6 : Int32) &&& 31)) (m := 5) (by decide) (by decide)
  obtain ⟨w, w1, w2⟩ := low_ok (p1 >>> ((8 : Int32) &&& 31)) (m := 20) (by decide) (by decide)
  obtain ⟨q, q1, q2⟩ := low_ok (p1 >>> ((5 : Int32) &&& 31)) (m := 4) (by decide) (by decide)
  obtain ⟨o, o1, o2⟩ := low_ok (p1 >>> ((9 : Int32) &&& 31)) (m := 4) (by decide) (by decide)
  have c2 : fL_low (p1 >>> ((6 : Int32) &&& 31)) 5 = some (nI c) := c2
  have w2 : fL_low (p1 >>> ((8 : Int32) &&& 31)) 20 = some (nI w) := w2
  have q2 : fL_low (p1 >>> ((5 : Int32) &&& 31)) 4 = some (nI q) := q2
  have o2 : fL_low (p1 >>> ((9 : Int32) &&& 31)) 4 = some (nI o) := o2
  obtain ⟨r, ft', st', r1, r2, r3⟩ := cast_X (eb := eb) (rd := rd) (la := la) (dl := dl) (tb := tb) (fu := fu) (c := c) (w := 1 + w) (q := 1 + q) (hw9 := o) h hT hS ht ha htt (by omega) (by omega) (by omega) (by omega) ho hfu
  refine Or.inr ⟨r, n, ft', er, eb, li, st', rd, tu, la, false, sh, tb, Nat.le_refl _, r2, r1, fun yc yp yg yc' yp' yg' hs => ?_⟩
  show fL_act_J348 fu ft er eb li st rd tu la dl sh tb yc yp yg p1 (nI t) (nI a) = _
  rw [fL_act_J348, c2, w2, q2, o2]
  simp only [Option.bind_some, n1A, r3 _ _ _ _ _ _ hs]
theorem A_act (h : GX n sa es fl sk ft er li st) (hT : PT sa fl sk tu) (hS : SHk sh) (ht : ¬ tu = -1) {a t : Nat} (ha : a < n) (htt : t < n) (ho : ∀ k, ¬ k = 3 → okAct sa sk tu a k) (p1 : Int32) (hfu : 2000 < fu) : AB fu n ft er eb li st rd tu la dl sh tb (fun yc yp yg => fL_act_J455 fu ft er eb li st rd tu la dl sh tb yc yp yg p1 (nI t) (nI a)) := by
  obtain ⟨c, c1, c2⟩ := low_ok (p1 >>> ((6 : Int32) &&& 31)) (m := 40) (by decide) (by decide)
  have c2 : fL_low (p1 >>> ((6 : Int32) &&& 31)) 40 = some (nI c) := c2
  obtain ⟨j, j1, j2⟩ := pk_andE (p1 >>> ((10 : Int32) &&& 31)) (m := 1) 1 (by decide)
  have hk : nI j = 0 ∨ nI j = 1 := by
    rcases Nat.lt_or_ge j 1 with q | q
    · rw [show j = 0 by omega]; exact Or.inl rfl
    · rw [show j = 1 by omega]; exact Or.inr rfl
  have hk3 : ¬ nI j = 3 := by rcases hk with q | q <;> rw [q] <;> decide
  obtain ⟨r, ft', st', r1, r2, r3⟩ := act_X (eb := eb) (rd := rd) (la := la) (dl := dl) (tb := tb) (fu := fu) (w := 1 + c) (kind := nI j) h hT hS ht ha htt (by omega) (by rcases hk with q | q; exact Or.inl q; exact Or.inr (Or.inl q)) (ho _ hk3) hfu
  refine Or.inr ⟨r, n, ft', er, eb, li, st', rd, tu, la, false, sh, tb, Nat.le_refl _, r2, r1, fun yc yp yg yc' yp' yg' hs => ?_⟩
  show fL_act_J455 fu ft er eb li st rd tu la dl sh tb yc yp yg p1 (nI t) (nI a) = _
  rw [fL_act_J455, c2, j2]
  simp only [Option.bind_some, n1A, r3 _ _ _ _ _ _ hs]
theorem A_75 (h : GX n sa es fl sk ft er li st) (hT : PT sa fl sk tu) (hS : SHk sh) {a t : Nat} (ha : a < n) (htt : t < n) (p1 v2 : Int32) (v7 may : Bool) (hv : (v7 = true ∧ sk = []) ∨ (v7 = false ∧ ¬ sk = [] ∧ may = mayB sa sk a)) (hfu : 2000 < fu) : AB fu n ft er eb li st rd tu la dl sh tb (fun yc yp yg => fL_act_J75 fu ft er eb li st rd tu la dl sh tb yc yp yg p1 v2 (nI n) tu (nI a) (nI t) v7 may) := by
  have hn := h.n10
  have hGK : GK n ft er li st tu sh := ⟨sa, es, fl, sk, h, hT, hS⟩
  have hmay := may_ok h ha
  have htu : (tu = -1 ∧ sk = []) ∨ ∃ f, f < n ∧ tu = nI f := by
    rcases hT with q | ⟨f, f1, f2, -⟩
    · exact Or.inl q
    · exact Or.inr ⟨f, h.2.2.2.2.2.2.1.1.2 f f1, f2⟩
  by_cases o0 : (p1 &&& (15 : Int32)) = 0
  · by_cases q : (6 : Int32) ≤ nI n
    · exact AB.same (fun yc yp yg => by rw [fL_act_J75, if_pos o0, if_pos q]) A_none
    · have hn6 : n < 6 := by
        rcases Nat.lt_or_ge n 6 with w | w
        · exact w
        · exact absurd (show (6 : Int32) ≤ nI n from nI_le (a := 6) w (by omega)) q
      obtain ⟨c, c1, c2⟩ := low_ok v2 (m := 30) (by decide) (by decide)
      obtain ⟨w, w1, w2⟩ := low_ok (p1 >>> ((5 : Int32) &&& 31)) (m := 60) (by decide) (by decide)
      have c2 : fL_low v2 30 = some (nI c) := c2
      have w2 : fL_low (p1 >>> ((5 : Int32) &&& 31)) 60 = some (nI w) := w2
      obtain ⟨ft', r1, -, r2⟩ := add_ok (eb := eb) (rd := rd) (la := la) (dl := dl) (tb := tb) (fu := fu) (a := 1 + c) (b := 1 + w) hGK (by omega) (by omega) (by omega) hfu
      refine Or.inr ⟨nI n, n + 1, ft', er, eb, li, st, rd, tu, la, dl, sh, tb, Nat.le_succ n, r1, nI_200 (by omega), fun yc yp yg yc' yp' yg' hs => ?_⟩
      show fL_act_J75 fu ft er eb li st rd tu la dl sh tb yc yp yg p1 v2 (nI n) tu (nI a) (nI t) v7 may = _
      rw [fL_act_J75, if_pos o0, if_neg q, c2, w2]
      simp only [Option.bind_some, n1A, r2 _ _ _ _ _ _ hs]
  by_cases o1 : (p1 &&& (15 : Int32)) = 1
  · obtain ⟨c, c1, c2⟩ := low_ok (p1 >>> ((6 : Int32) &&& 31)) (m := 30) (by decide) (by decide)
    have c2 : fL_low (p1 >>> ((6 : Int32) &&& 31)) 30 = some (nI c) := c2
    obtain ⟨r, ft', r1, r2, r3⟩ := setSpeed_ok (eb := eb) (rd := rd) (la := la) (dl := dl) (tb := tb) (fu := fu) (v := 1 + c) hGK ha (by omega) hfu
    refine Or.inr ⟨r, n, ft', er, eb, li, st, rd, tu, la, dl, sh, tb, Nat.le_refl _, r2, r1, fun yc yp yg yc' yp' yg' hs => ?_⟩
    show fL_act_J75 fu ft er eb li st rd tu la dl sh tb yc yp yg p1 v2 (nI n) tu (nI a) (nI t) v7 may = _
    rw [fL_act_J75, if_neg o0, if_pos o1, c2]
    simp only [Option.bind_some, n1A, r3 _ _ _ _ _ _ hs]
  by_cases o2 : (p1 &&& (15 : Int32)) = 2
  · obtain ⟨c, c1, c2⟩ := low_ok v2 (m := 30) (by decide) (by decide)
    have c2 : fL_low v2 30 = some (nI c) := c2
    obtain ⟨r1, r2, r3⟩ := setShock_ok (eb := eb) (rd := rd) (la := la) (dl := dl) (tb := tb) (fu := fu) (v := 1 + c) hGK (by omega)
    refine Or.inr ⟨sh, n, ft, er, eb, li, st, rd, tu, la, dl, nI (1 + c), tb, Nat.le_refl _, r2, r1, fun yc yp yg yc' yp' yg' hs => ?_⟩
    show fL_act_J75 fu ft er eb li st rd tu la dl sh tb yc yp yg p1 v2 (nI n) tu (nI a) (nI t) v7 may = _
    rw [fL_act_J75, if_neg o0, if_neg o1, if_pos o2, c2]
    simp only [Option.bind_some, n1A, r3 _ _ _ _ _ _ hs]
  by_cases o3 : (p1 &&& (15 : Int32)) = 3
  · have hc := A_comes (eb := eb) (rd := rd) (tu := tu) (la := la) (sh := sh) (tb := tb) (dl := dl) h ha hfu
    rcases htu with ⟨e, -⟩ | ⟨f, f1, f2⟩
    · exact AB.same (fun yc yp yg => by rw [fL_act_J75, if_neg o0, if_neg o1, if_neg o2, if_pos o3, if_pos (by rw [e]; decide)]) hc
    · have b4 : fX5_fighter fu ft er li tu 4 = some (sa (12 + 6 * f + 3)) := by rw [f2]; exact f_ok (j := 4) h f1 (by decide) hfu
      have e : ¬ tu < 0 := by rw [f2]; exact nI_pos (by omega)
      by_cases q : sa (12 + 6 * f + 3) = 1
      · cases v7 with
        | false => exact AB.same (fun yc yp yg => by rw [fL_act_J75, if_neg o0, if_neg o1, if_neg o2, if_pos o3, if_neg e, b4, Option.bind_some, if_pos q, if_pos bI_ff]) hc
        | true =>
          by_cases w : (p1 &&& (256 : Int32)) = 0
          · exact AB.same (fun yc yp yg => by rw [fL_act_J75, if_neg o0, if_neg o1, if_neg o2, if_pos o3, if_neg e, b4, Option.bind_some, if_pos q, if_neg bI_t, if_pos w]) hc
          · exact AB.same (fun yc yp yg => by rw [fL_act_J75, if_neg o0, if_neg o1, if_neg o2, if_pos o3, if_neg e, b4, Option.bind_some, if_pos q, if_neg bI_t, if_neg w]) A_none
      · exact AB.same (fun yc yp yg => by rw [fL_act_J75, if_neg o0, if_neg o1, if_neg o2, if_pos o3, if_neg e, b4, Option.bind_some, if_neg q]) hc
  by_cases o4 : (p1 &&& (15 : Int32)) = 4
  · rcases hv with ⟨rfl, rfl⟩ | ⟨rfl, hk, -⟩
    · rcases htu with ⟨e, -⟩ | ⟨f, f1, f2⟩
      · exact AB.same (fun yc yp yg => by rw [fL_act_J75, if_neg o0, if_neg o1, if_neg o2, if_neg o3, if_pos o4, if_neg bI_t, if_pos e]) (A_next hGK e hfu)
      · have e : ¬ tu = -1 := by rw [f2]; exact nI_m1 (by omega)
        exact AB.same (fun yc yp yg => by rw [fL_act_J75, if_neg o0, if_neg o1, if_neg o2, if_neg o3, if_pos o4, if_neg bI_t, if_neg e, if_neg bI_t]) (A_end h hT hS e hfu)
    · exact AB.same (fun yc yp yg => by rw [fL_act_J75, if_neg o0, if_neg o1, if_neg o2, if_neg o3, if_pos o4, if_pos bI_ff, if_pos bI_ff]) (A_settle h hT hS hk hfu)
  by_cases o5 : (p1 &&& (15 : Int32)) = 5
  · rcases hv with ⟨rfl, rfl⟩ | ⟨rfl, hk, -⟩
    · rcases htu with ⟨e, -⟩ | ⟨f, f1, f2⟩
      · exact AB.same (fun yc yp yg => by rw [fL_act_J75, if_neg o0, if_neg o1, if_neg o2, if_neg o3, if_neg o4, if_pos o5, if_neg bI_t, if_pos e]) (A_next hGK e hfu)
      · have e : ¬ tu = -1 := by rw [f2]; exact nI_m1 (by omega)
        exact AB.same (fun yc yp yg => by rw [fL_act_J75, if_neg o0, if_neg o1, if_neg o2, if_neg o3, if_neg o4, if_pos o5, if_neg bI_t, if_neg e, if_neg bI_t]) (A_end h hT hS e hfu)
    · exact AB.same (fun yc yp yg => by rw [fL_act_J75, if_neg o0, if_neg o1, if_neg o2, if_neg o3, if_neg o4, if_pos o5, if_pos bI_ff, if_pos bI_ff]) (A_settle h hT hS hk hfu)
  by_cases o6 : (p1 &&& (15 : Int32)) = 6
  · rcases hv with ⟨rfl, rfl⟩ | ⟨rfl, hk, -⟩
    · by_cases e : tu = -1
      · exact AB.same (fun yc yp yg => by rw [fL_act_J75, if_neg o0, if_neg o1, if_neg o2, if_neg o3, if_neg o4, if_neg o5, if_pos o6, if_neg bI_t, if_pos e]) (A_next hGK e hfu)
      · exact AB.same (fun yc yp yg => by rw [fL_act_J75, if_neg o0, if_neg o1, if_neg o2, if_neg o3, if_neg o4, if_neg o5, if_pos o6, if_neg bI_t, if_neg e]) A_none
    · exact AB.same (fun yc yp yg => by rw [fL_act_J75, if_neg o0, if_neg o1, if_neg o2, if_neg o3, if_neg o4, if_neg o5, if_pos o6, if_pos bI_ff]) (A_settle h hT hS hk hfu)
  by_cases o7 : (p1 &&& (15 : Int32)) = 7
  · rcases hv with ⟨rfl, rfl⟩ | ⟨rfl, hk, -⟩
    · by_cases e : tu = -1
      · exact AB.same (fun yc yp yg => by rw [fL_act_J75, if_neg o0, if_neg o1, if_neg o2, if_neg o3, if_neg o4, if_neg o5, if_neg o6, if_pos o7, if_neg bI_t, if_pos e]) (A_next hGK e hfu)
      · exact AB.same (fun yc yp yg => by rw [fL_act_J75, if_neg o0, if_neg o1, if_neg o2, if_neg o3, if_neg o4, if_neg o5, if_neg o6, if_pos o7, if_neg bI_t, if_neg e]) A_none
    · exact AB.same (fun yc yp yg => by rw [fL_act_J75, if_neg o0, if_neg o1, if_neg o2, if_neg o3, if_neg o4, if_neg o5, if_neg o6, if_pos o7, if_pos bI_ff]) (A_settle h hT hS hk hfu)
  by_cases o8 : (p1 &&& (15 : Int32)) = 8
  · rcases htu with ⟨e, -⟩ | ⟨f, f1, f2⟩
    · exact AB.same (fun yc yp yg => by rw [fL_act_J75, if_neg o0, if_neg o1, if_neg o2, if_neg o3, if_neg o4, if_neg o5, if_neg o6, if_neg o7, if_pos o8, if_pos (by rw [e]; decide)]) A_none
    · have e : ¬ tu < 0 := by rw [f2]; exact nI_pos (by omega)
      have e1 : ¬ tu = -1 := by rw [f2]; exact nI_m1 (by omega)
      rcases hv with ⟨rfl, rfl⟩ | ⟨rfl, hk, -⟩
      · refine AB.same (fun yc yp yg => ?_) (A_cast h hT hS e1 f1 htt (Or.inl ⟨rfl, f2, by decide⟩) p1 hfu)
        rw [fL_act_J75, if_neg o0, if_neg o1, if_neg o2, if_neg o3, if_neg o4, if_neg o5, if_neg o6, if_neg o7, if_pos o8, if_neg e, if_neg bI_t, fL_act_J335, if_neg bI_t, f2]
      · cases hm : mayB sa sk a with
        | false => exact AB.same (fun yc yp yg => by rw [fL_act_J75, if_neg o0, if_neg o1, if_neg o2, if_neg o3, if_neg o4, if_neg o5, if_neg o6, if_neg o7, if_pos o8, if_neg e, if_pos bI_ff, hmay, hm, Option.bind_some, if_pos bI_ff]) A_none
        | true =>
          refine AB.same (fun yc yp yg => ?_) (A_cast h hT hS e1 ha htt (Or.inr hm) p1 hfu)
          rw [fL_act_J75, if_neg o0, if_neg o1, if_neg o2, if_neg o3, if_neg o4, if_neg o5, if_neg o6, if_neg o7, if_pos o8, if_neg e, if_pos bI_ff, hmay, hm, Option.bind_some, if_neg bI_t, fL_act_J335, if_pos bI_ff]
  by_cases o9 : (p1 &&& (15 : Int32)) = 9
  · rcases htu with ⟨e, -⟩ | ⟨f, f1, f2⟩
    · exact AB.same (fun yc yp yg => by rw [fL_act_J75, if_neg o0, if_neg o1, if_neg o2, if_neg o3, if_neg o4, if_neg o5, if_neg o6, if_neg o7, if_neg o8, if_pos o9, if_pos (by rw [e]; decide)]) A_none
    · have e : ¬ tu < 0 := by rw [f2]; exact nI_pos (by omega)
      have e1 : ¬ tu = -1 := by rw [f2]; exact nI_m1 (by omega)
      rcases hv with ⟨rfl, rfl⟩ | ⟨rfl, hk, -⟩
      · refine AB.same (fun yc yp yg => ?_) (A_cast h hT hS e1 f1 htt (Or.inl ⟨rfl, f2, by decide⟩) p1 hfu)
        rw [fL_act_J75, if_neg o0, if_neg o1, if_neg o2, if_neg o3, if_neg o4, if_neg o5, if_neg o6, if_neg o7, if_neg o8, if_pos o9, if_neg e, if_neg bI_t, fL_act_J335, if_neg bI_t, f2]
      · cases hm : mayB sa sk a with
        | false => exact AB.same (fun yc yp yg => by rw [fL_act_J75, if_neg o0, if_neg o1, if_neg o2, if_neg o3, if_neg o4, if_neg o5, if_neg o6, if_neg o7, if_neg o8, if_pos o9, if_neg e, if_pos bI_ff, hmay, hm, Option.bind_some, if_pos bI_ff]) A_none
        | true =>
          refine AB.same (fun yc yp yg => ?_) (A_cast h hT hS e1 ha htt (Or.inr hm) p1 hfu)
          rw [fL_act_J75, if_neg o0, if_neg o1, if_neg o2, if_neg o3, if_neg o4, if_neg o5, if_neg o6, if_neg o7, if_neg o8, if_pos o9, if_neg e, if_pos bI_ff, hmay, hm, Option.bind_some, if_neg bI_t, fL_act_J335, if_pos bI_ff]
  by_cases o10 : (p1 &&& (15 : Int32)) = 10
  · rcases htu with ⟨e, -⟩ | ⟨f, f1, f2⟩
    · exact AB.same (fun yc yp yg => by rw [fL_act_J75, if_neg o0, if_neg o1, if_neg o2, if_neg o3, if_neg o4, if_neg o5, if_neg o6, if_neg o7, if_neg o8, if_neg o9, if_pos o10, if_pos (by rw [e]; decide)]) A_none
    · have e : ¬ tu < 0 := by rw [f2]; exact nI_pos (by omega)
      have e1 : ¬ tu = -1 := by rw [f2]; exact nI_m1 (by omega)
      rcases hv with ⟨rfl, rfl⟩ | ⟨rfl, hk, -⟩
      · refine AB.same (fun yc yp yg => ?_) (A_cast h hT hS e1 f1 htt (Or.inl ⟨rfl, f2, by decide⟩) p1 hfu)
        rw [fL_act_J75, if_neg o0, if_neg o1, if_neg o2, if_neg o3, if_neg o4, if_neg o5, if_neg o6, if_neg o7, if_neg o8, if_neg o9, if_pos o10, if_neg e, if_neg bI_t, fL_act_J335, if_neg bI_t, f2]
      · cases hm : mayB sa sk a with
        | false => exact AB.same (fun yc yp yg => by rw [fL_act_J75, if_neg o0, if_neg o1, if_neg o2, if_neg o3, if_neg o4, if_neg o5, if_neg o6, if_neg o7, if_neg o8, if_neg o9, if_pos o10, if_neg e, if_pos bI_ff, hmay, hm, Option.bind_some, if_pos bI_ff]) A_none
        | true =>
          refine AB.same (fun yc yp yg => ?_) (A_cast h hT hS e1 ha htt (Or.inr hm) p1 hfu)
          rw [fL_act_J75, if_neg o0, if_neg o1, if_neg o2, if_neg o3, if_neg o4, if_neg o5, if_neg o6, if_neg o7, if_neg o8, if_neg o9, if_pos o10, if_neg e, if_pos bI_ff, hmay, hm, Option.bind_some, if_neg bI_t, fL_act_J335, if_pos bI_ff]
  by_cases o11 : (p1 &&& (15 : Int32)) = 11
  · rcases hv with ⟨rfl, -⟩ | ⟨rfl, hk, -⟩
    · exact AB.same (fun yc yp yg => by rw [fL_act_J75, if_neg o0, if_neg o1, if_neg o2, if_neg o3, if_neg o4, if_neg o5, if_neg o6, if_neg o7, if_neg o8, if_neg o9, if_neg o10, if_pos o11, if_neg bI_t]) A_none
    · cases hm : mayB sa sk a with
      | false => exact AB.same (fun yc yp yg => by rw [fL_act_J75, if_neg o0, if_neg o1, if_neg o2, if_neg o3, if_neg o4, if_neg o5, if_neg o6, if_neg o7, if_neg o8, if_neg o9, if_neg o10, if_pos o11, if_pos bI_ff, hmay, hm, Option.bind_some, if_pos bI_ff]) A_none
      | true =>
        have e1 : ¬ tu = -1 := by
          rcases htu with ⟨-, e⟩ | ⟨f, f1, f2⟩
          · exact absurd e hk
          · rw [f2]; exact nI_m1 (by omega)
        obtain ⟨r, ft', st', r1, r2, r3⟩ := act_X (eb := eb) (rd := rd) (la := la) (dl := dl) (tb := tb) (fu := fu) (w := 1) (kind := 3) h hT hS e1 ha htt (by omega) (Or.inr (Or.inr rfl)) (Or.inr hm) hfu
        refine Or.inr ⟨r, n, ft', er, eb, li, st', rd, tu, la, false, sh, tb, Nat.le_refl _, r2, r1, fun yc yp yg yc' yp' yg' hs => ?_⟩
        have r3 : fX5_act fu ft er eb li st rd tu la dl sh tb yc yp yg (nI a) 3 (nI t) 1 = some (r, ft', st', false, yc', yp', yg') := r3 _ _ _ _ _ _ hs
        show fL_act_J75 fu ft er eb li st rd tu la dl sh tb yc yp yg p1 v2 (nI n) tu (nI a) (nI t) false may = _
        rw [fL_act_J75, if_neg o0, if_neg o1, if_neg o2, if_neg o3, if_neg o4, if_neg o5, if_neg o6, if_neg o7, if_neg o8, if_neg o9, if_neg o10, if_pos o11, if_pos bI_ff, hmay, hm, Option.bind_some, if_neg bI_t, r3]
        rfl
  rcases htu with ⟨e, -⟩ | ⟨f, f1, f2⟩
  · exact AB.same (fun yc yp yg => by rw [fL_act_J75, if_neg o0, if_neg o1, if_neg o2, if_neg o3, if_neg o4, if_neg o5, if_neg o6, if_neg o7, if_neg o8, if_neg o9, if_neg o10, if_neg o11, if_pos (by rw [e]; decide)]) A_none
  · have e : ¬ tu < 0 := by rw [f2]; exact nI_pos (by omega)
    have e1 : ¬ tu = -1 := by rw [f2]; exact nI_m1 (by omega)
    rcases hv with ⟨rfl, rfl⟩ | ⟨rfl, hk, hm⟩
    · refine AB.same (fun yc yp yg => ?_) (A_act h hT hS e1 f1 htt (fun k hk => Or.inl ⟨rfl, f2, hk⟩) p1 hfu)
      rw [fL_act_J75, if_neg o0, if_neg o1, if_neg o2, if_neg o3, if_neg o4, if_neg o5, if_neg o6, if_neg o7, if_neg o8, if_neg o9, if_neg o10, if_neg o11, if_neg e, if_neg bI_t, fL_act_J442, if_neg bI_t, f2]
      split <;> rfl
    · cases may with
      | false => exact AB.same (fun yc yp yg => by rw [fL_act_J75, if_neg o0, if_neg o1, if_neg o2, if_neg o3, if_neg o4, if_neg o5, if_neg o6, if_neg o7, if_neg o8, if_neg o9, if_neg o10, if_neg o11, if_neg e, if_pos bI_ff, if_pos bI_ff]) A_none
      | true =>
        refine AB.same (fun yc yp yg => ?_) (A_act h hT hS e1 ha htt (fun k _ => Or.inr hm.symm) p1 hfu)
        rw [fL_act_J75, if_neg o0, if_neg o1, if_neg o2, if_neg o3, if_neg o4, if_neg o5, if_neg o6, if_neg o7, if_neg o8, if_neg o9, if_neg o10, if_neg o11, if_neg e, if_neg bI_t, fL_act_J442, if_pos bI_ff]
theorem act_ok (h : GK n ft er li st tu sh) (hn : 1 ≤ n) (p1 : Int32) (hfu : 2000 < fu) : AB fu n ft er eb li st rd tu la dl sh tb (fun yc yp yg => fL_act fu ft er eb li st rd tu la dl sh tb yc yp yg p1) := by
  obtain ⟨sa, es, fl, sk, h, hT, hS⟩ := h
  have hn10 := h.n10
  have hl8 := h.2.2.2.1.2.2.2.1
  obtain ⟨a, a1, a2⟩ := low_ok (p1 >>> ((4 : Int32) &&& 31)) (m := n) (by omega) (by omega)
  obtain ⟨t, t1, t2⟩ := low_ok (p1 >>> ((7 : Int32) &&& 31)) (m := n) (by omega) (by omega)
  by_cases e : sk = []
  · refine AB.same (fun yc yp yg => ?_) (A_75 (la := la) (tb := tb) (dl := dl) (eb := eb) (rd := rd) h hT hS a1 t1 p1 (p1 >>> ((4 : Int32) &&& 31)) true (decide (tu = nI a)) (Or.inl ⟨rfl, e⟩) hfu)
    rw [fL_act, v_0 eb rd tu sh tb h, v_4, v_5 eb rd tu sh tb h]
    simp only [Option.bind_some, a2, t2]
    rw [if_pos (by rw [e]; rfl), fL_act_J47, if_neg bI_t]
    by_cases q : tu = nI a
    · rw [if_pos q, decide_eq_true q]
    · rw [if_neg q, decide_eq_false q]
  · have hp : 0 < sk.length := List.length_pos_iff.mpr e
    refine AB.same (fun yc yp yg => ?_) (A_75 (la := la) (tb := tb) (dl := dl) (eb := eb) (rd := rd) h hT hS a1 t1 p1 (p1 >>> ((4 : Int32) &&& 31)) false (mayB sa sk a) (Or.inr ⟨rfl, e, rfl⟩) hfu)
    rw [fL_act, v_0 eb rd tu sh tb h, v_4, v_5 eb rd tu sh tb h]
    simp only [Option.bind_some, a2, t2]
    rw [if_neg (nI_ne0 hp (by omega)), fL_act_J47, if_pos bI_ff, may_ok h a1]
    rfl
end A60
