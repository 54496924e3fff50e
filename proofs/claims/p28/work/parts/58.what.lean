/-! what would be -/
abbrev HT (yc : Int32) (yp : Nat → Nat) (yg : Nat → GV) : Prop := ∃ c, HK (fun _ => True) c yc yp yg
theorem FC.same {ft : Tab} {sa sa' : Nat → Int32} {n f : Nat} (h : FC ft sa n) (h' : FC ft sa' n) (hf : f < n) : stF sa' f = stF sa f := by
  have a := h.at hf (j := 2) (by decide)
  have b := h'.at hf (j := 2) (by decide)
  exact stF_cong (Option.some.inj (b.symm.trans a))
section W58
variable {n : Nat} {sa : Nat → Int32} {es : List Row} {fl : List Nat} {sk : List Row} {ft er li st : Tab} {eb rd tu la sh tb : Int32} {dl : Bool} {fu : Nat}
variable {zft zer zli zst : Tab} {zeb zrd ztu zla zsh ztb : Int32} {zdl : Bool}
variable {gft ger gli gst : Tab} {geb grd gtu gla gsh gtb : Int32} {gdl : Bool}
theorem save_ok {yc : Int32} {yp : Nat → Nat} {yg : Nat → GV} (h : GZ ft er li st) (hH : HT yc yp yg) (hfu : 2000 < fu) : ∃ c' yc' yp' yg', fX2_save fu yc yp yg ft er eb li st rd tu la dl sh tb = some (yc', yp', yg') ∧ HK (fun _ => True) (c' + 1) yc' yp' yg' ∧ yg' (yp' c') = (ft, er, eb, li, st, rd, tu, la, dl, sh, tb) := by
  obtain ⟨c, hH⟩ := hH
  exact g_save (K := fun _ => True) (ft, er, eb, li, st, rd, tu, la, dl, sh, tb) h trivial hH hfu
theorem undo_ok {c : Nat} {yc : Int32} {yp : Nat → Nat} {yg : Nat → GV} (hz : GZ ft er li st) (hH : HK (fun _ => True) (c + 1) yc yp yg) (hg : yg (yp c) = (gft, ger, geb, gli, gst, grd, gtu, gla, gdl, gsh, gtb)) : fX5_undo ft er eb li st rd tu la dl sh tb yc yp yg = some (nI c, gft, ger, geb, gli, gst, grd, gtu, gla, gdl, gsh, gtb, nI c) ∧ HK (fun _ => True) c (nI c) yp yg := by
  obtain ⟨a, b⟩ := g_undo eb rd tu la dl sh tb hz hH
  refine ⟨?_, b⟩
  have hy := hH.2.1
  have hc := hH.1
  rw [fX5_undo, fX2_size]
  simp only [Option.bind_some]
  rw [if_neg (show ¬ yc ≤ 0 by rw [hy]; exact nI_nle (by omega) (by omega)), fX5_undo_J15, a, hg]
  rfl
theorem life_ok {sa' : Nat → Int32} {es' : List Row} {fl' : List Nat} {sk' : List Row} {v : Int32} {ft' er' st' : Tab} {eb' tu' : Int32} (h : GX n sa es fl sk ft er li st) (hz : GZ zft zer zli zst) (hs : fX1_settleStack fu ft er eb st tu sh = some (v, ft', er', eb', st', tu')) (h' : GX n sa' es' fl' sk' ft' er' li st') (hfu : 2000 < fu) : fX5_lifeSettled fu ft er eb li st rd tu la dl sh tb zft zer zeb zli zst zrd ztu zla zdl zsh ztb = some (sumL sa' n, ft', er', eb', li, st', rd, tu', la, dl, sh, tb) := by
  rw [fX5_lifeSettled, g_copy _ _ _ _ _ _ _ _ _ _ _ _ _ _ h.z hz]
  simp only [Option.bind_some, hs, c_lives h'.1 hfu]
theorem settle0 (h : GX n sa es fl [] ft er li st) (hw : PW sa fl tu) (hfu : 2000 < fu) : ∃ tu', fX1_settleStack fu ft er eb st tu sh = some (0, ft, er, eb, st, tu') := by
  obtain ⟨k, rfl⟩ : ∃ k, fu = k + 1 := ⟨fu - 1, by omega⟩
  obtain ⟨tu', j1, -⟩ := h.settleJ (fu := k + 1) sh eb 0 hw
  refine ⟨tu', ?_⟩
  rw [fX1_settleStack, fX1_settleStack_L4, if_neg (show ¬ (8 : Int32) ≤ 0 by decide), t_count h.2.2.2.1]
  simp only [Option.bind_some]
  rw [if_pos (show nI ([] : List Row).length ≤ 0 by decide), j1]
theorem GX.aband (h : GX n sa es fl sk ft er li st) (tu : Int32) (hfu : 2000 < fu) : ∃ er' st' es', fX1_abandonTurn fu er st tu = some (er', st', -1) ∧ GX n sa es' fl [] ft er' li st' ∧ ((tu = -1 ∧ er' = er ∧ es' = es) ∨ (¬ tu = -1 ∧ es' = es.filterMap (cdF tu) ∧ fX1_endTurn fu er tu = some (nI es.length - nI es'.length, er', -1))) := by
  have hG := h
  obtain ⟨hF, hE, hL, hS, hPF, hPE, hPL, hSk⟩ := h
  obtain ⟨st', c1, c2⟩ := t_clear hS
  rw [fX1_abandonTurn, c1]
  simp only [Option.bind_some]
  by_cases e : tu = -1
  · exact ⟨er, st', es, by rw [if_pos e, e], ⟨hF, hE, hL, c2, hPF, hPE, hPL, fun r hr => by cases hr⟩, Or.inl ⟨e, rfl, rfl⟩⟩
  · obtain ⟨er', e1, e2⟩ := hG.endT (fu := fu) tu hfu
    exact ⟨er', st', es.filterMap (cdF tu), by rw [if_neg e, e1]; rfl, ⟨e2.1, e2.2.1, e2.2.2.1, c2, hPF, e2.2.2.2.2.2.1, hPL, fun r hr => by cases hr⟩, Or.inr ⟨e, rfl, e1⟩⟩
/-- a turn that is passed -/
theorem GX.pass (h : GX n sa es fl [] ft er li st) (rd la : Int32) (dl : Bool) (sh tb : Int32) (hfu : 2000 < fu) : ∃ x ft' er' li' rd' la' dl' tb', fX1_passTurn fu ft er li rd (-1) la dl sh tb = some (x, ft', er', li', rd', -1, la', dl', tb') ∧ (∃ sa' es' fl', GX n sa' es' fl' [] ft' er' li' st ∧ ((x = -1 ∧ ∀ f, f < n → stF sa f = false ∧ stF sa' f = false) ∨ ∃ f, f < n ∧ x = nI f ∧ stF sa f = true)) ∧ ∃ q, fX1_beginTurn fu ft er li rd (-1) la dl sh tb = some (x, q) := by
  obtain ⟨x, ft', er', li', rd', tu', la', dl', tb', b1, sa', es', fl', b2, b3, b4⟩ := h.begin (fu := fu) rd la dl sh tb hfu
  rw [fX1_passTurn, b1]
  simp only [Option.bind_some]
  by_cases e : tu' = -1
  · rw [if_pos e, e]
    refine ⟨x, ft', er', li', rd', la', dl', tb', rfl, ⟨sa', es', fl', b2, ?_⟩, _, rfl⟩
    rcases b4 with ⟨q1, q2, q3, q4⟩ | ⟨f, f1, f2, f3⟩
    · subst q3
      exact Or.inl ⟨q1, fun f hf => ⟨q4 f hf, by rw [h.1.same b2.1 hf]; exact q4 f hf⟩⟩
    · exact Or.inr ⟨f, f1, f2, f3⟩
  · rw [if_neg e]
    obtain ⟨er2, e1, e2⟩ := b2.endT (fu := fu) tu' hfu
    rw [e1]
    refine ⟨x, ft', er2, li', rd', la', dl', tb', rfl, ⟨sa', _, fl', e2, ?_⟩, _, rfl⟩
    rcases b4 with ⟨q1, q2, q3, q4⟩ | ⟨f, f1, f2, f3⟩
    · exact absurd q2 e
    · exact Or.inr ⟨f, f1, f2, f3⟩
theorem upL {m : Nat} (hm : m ≤ 40) (hfu : 2000 < fu) : ∀ (d i k : Nat) (sa : Nat → Int32) (es : List Row) (fl : List Nat) (ft er li : Tab) (rd la : Int32) (dl : Bool) (tb x : Int32), i + d = m + 1 → d < k → GX n sa es fl [] ft er li st → ∃ x' z', GVZ z' ∧ fX5_upcoming_L29 fu gft ger geb gli gst grd gtu gla gdl gsh gtb (nI m) eb st sh k ft er li rd (-1) la dl tb x (nI i) = some (x', z') ∧ (x = -1 → (∀ f, f < n → stF sa f = false) → x' = -1)
  | 0, i, k + 1, sa, es, fl, ft, er, li, rd, la, dl, tb, x, hd, hk, h => by
    refine ⟨x, (ft, er, eb, li, st, rd, -1, la, dl, sh, tb), h.z, ?_, fun e _ => e⟩
    rw [fX5_upcoming_L29, if_pos (nI_lt (by omega) (by omega))]
  | d + 1, i, k + 1, sa, es, fl, ft, er, li, rd, la, dl, tb, x, hd, hk, h => by
    obtain ⟨x1, ft', er', li', rd', la', dl', tb', p1, ⟨sa', es', fl', p2, p3⟩, -⟩ := h.pass (fu := fu) rd la dl sh tb hfu
    obtain ⟨x', z', z1, z2, z3⟩ := upL hm hfu d (i + 1) k sa' es' fl' ft' er' li' rd' la' dl' tb' x1 (by omega) (by omega) p2
    refine ⟨x', z', z1, ?_, fun _ q => ?_⟩
    · rw [fX5_upcoming_L29, if_neg (nI_nlt (by omega) (by omega)), p1]
      simp only [Option.bind_some, nS]
      exact z2
    · rcases p3 with ⟨a, b⟩ | ⟨f, f1, f2, f3⟩
      · exact z3 a (fun f hf => (b f hf).2)
      · rw [q f f1] at f3; cases f3
theorem up_ok {m : Nat} (h : GX n sa es fl sk ft er li st) (hz : GZ zft zer zli zst) (hm : m ≤ 40) (hfu : 2000 < fu) : ∃ x z', GVZ z' ∧ fX5_upcoming fu ft er eb li st rd tu la dl sh tb zft zer zeb zli zst zrd ztu zla zdl zsh ztb (nI m) = some (x, z') ∧ ((∀ f, f < n → stF sa f = false) → x = -1) := by
  obtain ⟨er', st', es', a1, a2, -⟩ := h.aband (fu := fu) tu hfu
  obtain ⟨x', z', z1, z2, z3⟩ := upL (gft := ft) (ger := er) (geb := eb) (gli := li) (gst := st) (grd := rd) (gtu := tu) (gla := la) (gdl := dl) (gsh := sh) (gtb := tb) (eb := eb) (sh := sh) hm hfu (m + 1) 0 fu sa es' fl ft er' li rd la dl tb (-1) (by omega) (by omega) a2
  refine ⟨x', z', z1, ?_, z3 rfl⟩
  rw [fX5_upcoming, rw_ok (show inB (nI m) 0 40 = true from inB_of (a := 0) (b := 40) (Nat.zero_le _) hm (by decide)), g_copy _ _ _ _ _ _ _ _ _ _ _ _ _ _ h.z hz]
  simp only [Option.bind_some, a1]
  exact z2
/-- who comes next -/
theorem up0_ok (h : GX n sa es fl sk ft er li st) (hz : GZ zft zer zli zst) (hfu : 2000 < fu) : ∃ x z', GVZ z' ∧ fX5_upcoming fu ft er eb li st rd tu la dl sh tb zft zer zeb zli zst zrd ztu zla zdl zsh ztb 0 = some (x, z') ∧ ((x = -1 ∧ ∀ f, f < n → stF sa f = false) ∨ ∃ f, f < n ∧ x = nI f) ∧ ∃ er1, ((tu = -1 ∧ er1 = er) ∨ ∃ m, ¬ tu = -1 ∧ fX1_endTurn fu er tu = some (m, er1, -1)) ∧ ∃ q, fX1_beginTurn fu ft er1 li rd (-1) la dl sh tb = some (x, q) := by
  obtain ⟨er', st', es', a1, a2, a3⟩ := h.aband (fu := fu) tu hfu
  obtain ⟨x1, ft', er2, li', rd', la', dl', tb', p1, ⟨sa', es2, fl', p2, p3⟩, p4⟩ := a2.pass (fu := fu) rd la dl sh tb hfu
  refine ⟨x1, (ft', er2, eb, li', st', rd', -1, la', dl', sh, tb'), p2.z, ?_, ?_, er', ?_, p4⟩
  · obtain ⟨k, hk⟩ : ∃ k, fu = k + 2 := ⟨fu - 2, by omega⟩
    rw [fX5_upcoming, rw_ok (by decide), g_copy _ _ _ _ _ _ _ _ _ _ _ _ _ _ h.z hz]
    simp only [Option.bind_some, a1]
    have e : ∀ w, fX5_upcoming_L29 fu ft er eb li st rd tu la dl sh tb 0 eb st' sh (k + 2) ft er' li rd (-1) la dl tb w 0 = some (x1, ft', er2, eb, li', st', rd', -1, la', dl', sh, tb') := fun w => by
      rw [fX5_upcoming_L29, if_neg (by decide), p1]
      simp only [Option.bind_some]
      rw [fX5_upcoming_L29, if_pos (by decide)]
    rw [← hk] at e
    exact e _
  · rcases p3 with ⟨a, b⟩ | ⟨f, f1, f2, f3⟩
    · exact Or.inl ⟨a, fun f hf => (b f hf).1⟩
    · exact Or.inr ⟨f, f1, f2⟩
  · rcases a3 with ⟨e, e1, -⟩ | ⟨e, -, e1⟩
    · exact Or.inl ⟨e, e1⟩
    · exact Or.inr ⟨_, e, e1⟩
theorem goneL (b : Int32) (hfu : 2000 < fu) : ∀ (d i k : Nat) (sa : Nat → Int32) (es : List Row) (fl : List Nat) (ft er li : Tab) (rd la : Int32) (dl : Bool) (tb : Int32), i + d = 61 → d < k → GX n sa es fl [] ft er li st → ∃ x z', GVZ z' ∧ fX5_goneAfter_L34 fu gft ger geb gli gst grd gtu gla gdl gsh gtb eb st sh b k ft er li rd (-1) la dl tb (nI i) = some (x, z') ∧ (x = 0 → i = 0 ∧ thrF b es = false)
  | 0, i, k + 1, sa, es, fl, ft, er, li, rd, la, dl, tb, hd, hk, h => by
    refine ⟨-1, (ft, er, eb, li, st, rd, -1, la, dl, sh, tb), h.z, ?_, fun e => absurd e (by decide)⟩
    rw [fX5_goneAfter_L34, if_pos (show (60 : Int32) < nI i from nI_lt (a := 60) (by omega) (by omega))]
  | d + 1, i, k + 1, sa, es, fl, ft, er, li, rd, la, dl, tb, hd, hk, h => by
    rw [fX5_goneAfter_L34, if_neg (show ¬ (60 : Int32) < nI i from nI_nlt (a := 60) (by omega) (by omega)), fX1_hasEffectBorn, c_thr b h.2.1 (by omega)]
    simp only [Option.bind_some]
    cases ht : thrF b es with
    | false =>
      rw [if_pos bI_ff]
      refine ⟨nI i, (ft, er, eb, li, st, rd, -1, la, dl, sh, tb), h.z, rfl, fun e => ⟨?_, rfl⟩⟩
      rcases Nat.eq_zero_or_pos i with q | q
      · exact q
      · exact absurd e (nI_ne0 q (by omega))
    | true =>
      rw [if_neg bI_t]
      obtain ⟨x1, ft', er', li', rd', la', dl', tb', p1, ⟨sa', es', fl', p2, p3⟩, -⟩ := h.pass (fu := fu) rd la dl sh tb hfu
      obtain ⟨x', z', z1, z2, z3⟩ := goneL b hfu d (i + 1) k sa' es' fl' ft' er' li' rd' la' dl' tb' (by omega) (by omega) p2
      refine ⟨x', z', z1, ?_, fun e => absurd (z3 e).1 (by omega)⟩
      rw [p1]
      simp only [Option.bind_some, nS]
      exact z2
theorem fm_len {α β : Type} {f : α → Option β} : ∀ {l : List α}, l.length ≤ (l.filterMap f).length → ∀ x ∈ l, ∃ y, f x = some y
  | a :: t, h, x, hx => by
    rw [List.filterMap_cons] at h
    have hl : (t.filterMap f).length ≤ t.length := List.length_filterMap_le _ _
    cases ha : f a with
    | none => rw [ha] at h; simp at h; omega
    | some y =>
      rw [ha] at h
      rcases List.mem_cons.mp hx with e | hx
      · exact ⟨y, by rw [e, ha]⟩
      · exact fm_len (by simpa using h) x hx
theorem thrF_mem {b : Int32} : ∀ {t : List Row} {r : Row}, r ∈ t → gD r 7 = b → thrF b t = true
  | x :: t, r, h, e => by
    rw [thrF]
    by_cases q : gD x 7 = b
    · rw [if_pos q]
    · rw [if_neg q]
      rcases List.mem_cons.mp h with w | h
      · rw [← w] at q; exact absurd e q
      · exact thrF_mem h e
/-- after how many turns the first effect is gone -/
theorem gone_ok (h : GX n sa es fl sk ft er li st) (hz : GZ zft zer zli zst) (he : 0 < es.length) (hfu : 2000 < fu) : ∃ x z', GVZ z' ∧ fX5_goneAfter fu ft er eb li st rd tu la dl sh tb zft zer zeb zli zst zrd ztu zla zdl zsh ztb 0 = some (x, z') ∧ (x = 0 → ¬ tu = -1 ∧ (es.filterMap (cdF tu)).length < es.length) := by
  obtain ⟨r, hr⟩ : ∃ r, es[0]? = some r := ⟨_, List.getElem?_eq_getElem he⟩
  have a7 : fX4_at er 0 7 = some (gD r 7) := h.2.1.at (i := 0) (j := 7) hr (by decide)
  obtain ⟨er', st', es', a1, a2, a3⟩ := h.aband (fu := fu) tu hfu
  obtain ⟨x', z', z1, z2, z3⟩ := goneL (gft := ft) (ger := er) (geb := eb) (gli := li) (gst := st) (grd := rd) (gtu := tu) (gla := la) (gdl := dl) (gsh := sh) (gtb := tb) (eb := eb) (sh := sh) (gD r 7) hfu 61 0 fu sa es' fl ft er' li rd la dl tb rfl (by omega) a2
  have hrq : fX5_requireEffect er 0 = some () := re_ok h.2.1 (e := 0) he
  refine ⟨x', z', z1, ?_, fun e => ?_⟩
  · rw [fX5_goneAfter, hrq]
    simp only [Option.bind_some]
    rw [fX1_birthOf, fX0_birthOf, a7]
    simp only [Option.bind_some]
    rw [g_copy _ _ _ _ _ _ _ _ _ _ _ _ _ _ h.z hz]
    simp only [Option.bind_some, a1]
    exact z2
  · have ht := (z3 e).2
    have hm : r ∈ es := List.mem_of_getElem? hr
    rcases a3 with ⟨-, -, e2⟩ | ⟨e1, e2, -⟩
    · rw [e2, thrF_mem hm rfl] at ht; cases ht
    · refine ⟨e1, ?_⟩
      rcases Nat.lt_or_ge (es.filterMap (cdF tu)).length es.length with q | q
      · exact q
      · obtain ⟨r', q1⟩ := fm_len q r hm
        have : r' ∈ es' := by rw [e2]; exact List.mem_filterMap.mpr ⟨r, hm, q1⟩
        rw [thrF_mem this ((cdF_cols q1).1 7 (by decide))] at ht
        cases ht
/-- an empty text -/
theorem carry_ok {yc : Int32} {yp : Nat → Nat} {yg : Nat → GV} {tx cm : Tab} (h : GZ ft er li st) (hz : GZ zft zer zli zst) (hH : HT yc yp yg) (htx : tx.2.2.2 = 0) (hfu : 2000 < fu) : ∃ r, fX5_carryOut fu ft er eb li st rd tu la dl sh tb zft zer zeb zli zst zrd ztu zla zdl zsh ztb yc yp yg tx cm = some r ∧ r.1 = 0 := by
  obtain ⟨c', yc', yp', yg', s1, -⟩ := save_ok (eb := eb) (rd := rd) (tu := tu) (la := la) (dl := dl) (sh := sh) (tb := tb) h hH hfu
  obtain ⟨k, hk⟩ : ∃ k, fu = k + 1 := ⟨fu - 1, by omega⟩
  have hr : fX3_read fu tx cm = some (-1, (cm.1, cm.2.1, cm.2.2.1, (0 : Int32))) := by
    have e : ∀ c : Tab, fX3_read_L11 fu tx (k + 1) c 0 0 = some (-1, c) := fun c => by
      rw [fX3_read_L11, fX4_count, htx]
      simp only [Option.bind_some]
      rw [if_pos (by decide), if_pos trivial]
    rw [← hk] at e
    rw [fX3_read, fX4_clear]
    exact e _
  rw [fX5_carryOut, hr]
  simp only [Option.bind_some]
  rw [if_pos trivial, g_copy _ _ _ _ _ _ _ _ _ _ _ _ _ _ h hz]
  simp only [Option.bind_some]
  have e : ∃ r, fX5_carryOut_L31 fu ft er eb li st rd tu la dl sh tb yc yp yg tx sh (cm.1, cm.2.1, cm.2.2.1, (0 : Int32)) (k + 1) ft er eb li st rd tu la dl tb 0 = some r ∧ r.1 = 0 := by
    rw [fX5_carryOut_L31, fX3_commandCount, fX4_count]
    simp only [Option.bind_some]
    rw [if_pos (by decide), s1, g_copy _ _ _ _ _ _ _ _ _ _ _ _ _ _ h h]
    exact ⟨_, rfl, rfl⟩
  rw [← hk] at e
  exact e
end W58
