/-! the calls that change a game -/
def SHk (sh : Int32) : Prop := ∃ s : Nat, 1 ≤ s ∧ s ≤ 200 ∧ sh = nI s
def GK (n : Nat) (ft er li st : Tab) (tu sh : Int32) : Prop := ∃ (sa : Nat → Int32) (es : List Row) (fl : List Nat) (sk : List Row), GX n sa es fl sk ft er li st ∧ PT sa fl sk tu ∧ SHk sh
theorem GK.z {n : Nat} {ft er li st : Tab} {tu sh : Int32} (h : GK n ft er li st tu sh) : GZ ft er li st := by
  obtain ⟨sa, es, fl, sk, h, -⟩ := h
  exact h.z
theorem nI_200 {m : Nat} (hm : m < 2 ^ 31) : nI m ≠ -200 := fun e => by
  have h1 := nI_toInt hm
  rw [e, show (-200 : Int32).toInt = -200 from rfl] at h1
  omega
theorem frows_succ (sa : Nat → Int32) (n : Nat) : frows sa (n + 1) = frows sa n ++ [frow sa n] := by
  unfold frows; rw [List.range_succ, List.map_append]; rfl
section OPS
variable {n : Nat} {sa : Nat → Int32} {es : List Row} {fl : List Nat} {sk : List Row} {ft er li st : Tab} {eb rd tu la sh tb : Int32} {dl : Bool} {fu : Nat}
/-- one more fighter -/
theorem GX.join (h : GX n sa es fl sk ft er li st) (hn : n < 10) {a b : Nat} (ha : 1 ≤ a ∧ a ≤ 30) (hb : 1 ≤ b ∧ b ≤ 200) (hfu : 2000 < fu) :
    ∃ sa' ft', fX1_join fu ft (nI a) (nI b) = some (nI n, ft') ∧ GX (n + 1) sa' es fl sk ft' er li st ∧ (∀ q, q < 12 + 6 * n → sa' q = sa q) ∧ stF sa' n = true := by
  obtain ⟨hF, hE, hL, hS, hPF, hPE, hPL, hSk⟩ := h
  have hln := frows_len sa n
  obtain ⟨t, a0, b0⟩ := t_push (fu := fu) hF.1 d4 (by rw [hln]; exact hn) (by omega)
  obtain ⟨t1, a1, b1⟩ := t_ptop (v := nI a) b0 d4 (show 0 < 4 by decide)
  obtain ⟨t2, a2, b2⟩ := t_ptop (v := nI b) b1 d4 (show 1 < 4 by decide)
  obtain ⟨t3, a3, b3⟩ := t_ptop (v := nI b) b2 d4 (show 2 < 4 by decide)
  obtain ⟨t4, a4, b4⟩ := t_ptop (v := 1) b3 d4 (show 3 < 4 by decide)
  rw [hln] at a0 a1 a2 a3 a4
  have a1 : fX4_put t (nI n) 0 (nI a) = some t1 := a1
  have a2 : fX4_put t1 (nI n) 1 (nI b) = some t2 := a2
  have a3 : fX4_put t2 (nI n) 2 (nI b) = some t3 := a3
  have a4 : fX4_put t3 (nI n) 3 1 = some t4 := a4
  have b4 : TL 4 10 t4 (frows sa n ++ [[nI a, nI b, nI b, 1]]) := b4
  have k0 : upd (upd (upd (upd sa (12 + 6 * n) (nI a)) (12 + 6 * n + 1) (nI b)) (12 + 6 * n + 2) (nI b)) (12 + 6 * n + 3) 1 (12 + 6 * n) = nI a := by rw [pk_un (by omega), pk_un (by omega), pk_un (by omega), pk_us]
  have k1 : upd (upd (upd (upd sa (12 + 6 * n) (nI a)) (12 + 6 * n + 1) (nI b)) (12 + 6 * n + 2) (nI b)) (12 + 6 * n + 3) 1 (12 + 6 * n + 1) = nI b := by rw [pk_un (by omega), pk_un (by omega), pk_us]
  have k2 : upd (upd (upd (upd sa (12 + 6 * n) (nI a)) (12 + 6 * n + 1) (nI b)) (12 + 6 * n + 2) (nI b)) (12 + 6 * n + 3) 1 (12 + 6 * n + 2) = nI b := by rw [pk_un (by omega), pk_us]
  have k3 : upd (upd (upd (upd sa (12 + 6 * n) (nI a)) (12 + 6 * n + 1) (nI b)) (12 + 6 * n + 2) (nI b)) (12 + 6 * n + 3) 1 (12 + 6 * n + 3) = 1 := pk_us
  have kq : ∀ q, (q < 12 + 6 * n ∨ 12 + 6 * n + 4 ≤ q) → upd (upd (upd (upd sa (12 + 6 * n) (nI a)) (12 + 6 * n + 1) (nI b)) (12 + 6 * n + 2) (nI b)) (12 + 6 * n + 3) 1 q = sa q := fun q hq => by rw [pk_un (by omega), pk_un (by omega), pk_un (by omega), pk_un (by omega)]
  generalize upd (upd (upd (upd sa (12 + 6 * n) (nI a)) (12 + 6 * n + 1) (nI b)) (12 + 6 * n + 2) (nI b)) (12 + 6 * n + 3) 1 = s at k0 k1 k2 k3 kq
  have hs : ∀ f, f < n → stF s f = stF sa f := fun f hf => stF_cong (kq _ (by omega))
  have hfl := hPL.1.2
  refine ⟨s, t4, ?_, ⟨⟨?_, by omega⟩, hE, hL.cong (fun f hf => kq _ (by have := hfl f hf; omega)), hS, fun f hf => ?_, ⟨fun r hr => ((hPE.1 r hr).st hs).grow (Nat.le_succ n), hPE.2⟩, ⟨⟨by omega, fun f hf => Nat.lt_succ_of_lt (hfl f hf)⟩, hPL.2.1, fun f hf => by rw [kq _ (by have := hfl f hf; omega)]; exact hPL.2.2 f hf⟩, fun r hr => (hSk r hr).grow (Nat.le_succ n)⟩, fun q hq => kq q (Or.inl hq), ?_⟩
  · rw [fX1_join, hF.cnt]
    simp only [Option.bind_some, a0, a1, a2, a3, a4]
  · rw [frows_succ, frows_cong (fun i hi j hj => kq _ (by omega))]
    have : frow s n = [nI a, nI b, nI b, 1] := by unfold frow; rw [k0, k1, k2, k3]
    rw [this]; exact b4
  · rcases Nat.lt_or_ge f n with hf' | hf'
    · rw [kq _ (by omega), kq _ (by omega), kq _ (by omega)]
      exact hPF f hf'
    · have e : f = n := by omega
      subst e
      exact ⟨a, b, b, ha.1, ha.2, Nat.le_refl _, hb.1, hb.2, k0, k2, k1⟩
  · rw [stF_nI k2 (by omega), decide_eq_true (show 0 < b by omega)]
theorem PT.join {sa' : Nat → Int32} (hfl : ∀ f ∈ fl, f < n) (hq : ∀ q, q < 12 + 6 * n → sa' q = sa q) (h : PT sa fl sk tu) : PT sa' fl sk tu := by
  rcases h with h | ⟨f, f1, f2, f3, f4⟩
  · exact Or.inl h
  · have := hfl f f1
    exact Or.inr ⟨f, f1, f2, (hq _ (by omega)).trans f3, by rw [stF_cong (hq _ (by omega))]; exact f4⟩
theorem add_ok (h : GK n ft er li st tu sh) (hn : n < 10) {a b : Nat} (ha : 1 ≤ a ∧ a ≤ 30) (hb : 1 ≤ b ∧ b ≤ 200) (hfu : 2000 < fu) :
    ∃ ft', GK (n + 1) ft' er li st tu sh ∧ (∃ sa', FC ft' sa' (n + 1) ∧ stF sa' n = true) ∧ ∀ yc yp yg yc' yp' yg', fX2_save fu yc yp yg ft er eb li st rd tu la dl sh tb = some (yc', yp', yg') → fX5_add fu ft er eb li st rd tu la dl sh tb yc yp yg (nI a) (nI b) = some (nI n, ft', yc', yp', yg') := by
  obtain ⟨sa, es, fl, sk, h, hT, hS⟩ := h
  obtain ⟨sa', ft', j1, j2, j3, j4⟩ := h.join (fu := fu) hn ha hb hfu
  refine ⟨ft', ⟨sa', es, fl, sk, j2, hT.join h.2.2.2.2.2.2.1.1.2 j3, hS⟩, ⟨sa', j2.1, j4⟩, fun yc yp yg yc' yp' yg' hs => ?_⟩
  have hnn := h.1.cnt
  rw [fX5_add, c_within, show inB (nI a) 1 30 = true from inB_of (a := 1) (b := 30) ha.1 ha.2 (by decide), c_within, show inB (nI b) 1 200 = true from inB_of (a := 1) (b := 200) hb.1 hb.2 (by decide)]
  simp only [Option.bind_some, if_neg bI_t, fX1_fighterCount, hnn, hs, j1]
  rw [if_pos (show nI n < 10 from nI_lt (b := 10) hn (by decide))]
theorem setSpeed_ok (h : GK n ft er li st tu sh) {f v : Nat} (hf : f < n) (hv : 1 ≤ v ∧ v ≤ 30) (hfu : 2000 < fu) :
    ∃ r ft', r ≠ -200 ∧ GK n ft' er li st tu sh ∧ ∀ yc yp yg yc' yp' yg', fX2_save fu yc yp yg ft er eb li st rd tu la dl sh tb = some (yc', yp', yg') → fX5_setSpeed fu ft er eb li st rd tu la dl sh tb yc yp yg (nI f) (nI v) = some (r, ft', yc', yp', yg') := by
  obtain ⟨sa, es, fl, sk, h, hT, hS⟩ := h
  have h0 := h
  obtain ⟨hF, hE, hL, hSt, hPF, hPE, hPL, hSk⟩ := h
  obtain ⟨sp, lf, fi, h1, h2, h3, h4, h5, h6, h7, h8⟩ := hPF f hf
  obtain ⟨ft', f1, f2⟩ := hF.put (v := nI v) hf (show 0 < 4 by decide)
  have f1 : fX4_put ft (nI f) 0 (nI v) = some ft' := f1
  have a0 : fX4_at ft (nI f) 0 = some (nI sp) := by rw [← h6]; exact hF.at hf (j := 0) (by decide)
  have f2 : FC ft' (upd sa (12 + 6 * f) (nI v)) n := f2
  have hs : ∀ x, stF (upd sa (12 + 6 * f) (nI v)) x = stF sa x := fun x => stF_cong (pk_un (by omega))
  refine ⟨nI sp, ft', nI_200 (by omega), ⟨upd sa (12 + 6 * f) (nI v), es, fl, sk, ⟨f2, hE, hL.cong (fun x hx => pk_un (by omega)), hSt, fun x hx => ?_, hPE.st (fun x _ => hs x), ⟨hPL.1, hPL.2.1, fun x hx => by rw [pk_un (by omega)]; exact hPL.2.2 x hx⟩, hSk⟩, ?_, hS⟩, fun yc yp yg yc' yp' yg' hsv => ?_⟩
  · obtain ⟨sp', lf', fi', g1, g2, g3, g4, g5, g6, g7, g8⟩ := hPF x hx
    by_cases e : x = f
    · subst e
      exact ⟨v, lf', fi', hv.1, hv.2, g3, g4, g5, pk_us, by rw [pk_un (by omega)]; exact g7, by rw [pk_un (by omega)]; exact g8⟩
    · exact ⟨sp', lf', fi', g1, g2, g3, g4, g5, by rw [pk_un (by omega)]; exact g6, by rw [pk_un (by omega)]; exact g7, by rw [pk_un (by omega)]; exact g8⟩
  · rcases hT with hT | ⟨x, x1, x2, x3, x4⟩
    · exact Or.inl hT
    · exact Or.inr ⟨x, x1, x2, by rw [pk_un (by omega)]; exact x3, by rw [hs]; exact x4⟩
  · rw [fX5_setSpeed, rf_ok hF hf, rw_ok (show inB (nI v) 1 30 = true from inB_of (a := 1) (b := 30) hv.1 hv.2 (by decide))]
    simp only [Option.bind_some, hsv, fX1_changeSpeed, a0, f1]
theorem setShock_ok (h : GK n ft er li st tu sh) {v : Nat} (hv : 1 ≤ v ∧ v ≤ 200) :
    sh ≠ -200 ∧ GK n ft er li st tu (nI v) ∧ ∀ yc yp yg yc' yp' yg', fX2_save fu yc yp yg ft er eb li st rd tu la dl sh tb = some (yc', yp', yg') → fX5_setShock fu ft er eb li st rd tu la dl sh tb yc yp yg (nI v) = some (sh, nI v, yc', yp', yg') := by
  obtain ⟨sa, es, fl, sk, h, hT, s, s1, s2, s3⟩ := h
  refine ⟨by rw [s3]; exact nI_200 (by omega), ⟨sa, es, fl, sk, h, hT, v, hv.1, hv.2, rfl⟩, fun yc yp yg yc' yp' yg' hsv => ?_⟩
  rw [fX5_setShock, rw_ok (show inB (nI v) 1 200 = true from inB_of (a := 1) (b := 200) hv.1 hv.2 (by decide))]
  simp only [Option.bind_some, hsv, fX1_changeShock]
theorem rp_t : fX5_requirePossible true = some () := rfl
/-- next: the turn that begins; nobody's where nobody stands -/
theorem next_ok (h : GK n ft er li st (-1) sh) (hfu : 2000 < fu) :
    ∃ x ft' er' li' rd' tu' la' dl' tb', ((x = -1 ∧ ∃ sa, FC ft sa n ∧ ∀ f, f < n → stF sa f = false) ∨ ∃ f, f < n ∧ x = nI f) ∧ GK n ft' er' li' st tu' sh ∧ fX1_beginTurn fu ft er li rd (-1) la dl sh tb = some (x, ft', er', li', rd', tu', la', dl', tb') ∧ ∀ yc yp yg yc' yp' yg', fX2_save fu yc yp yg ft er eb li st rd (-1) la dl sh tb = some (yc', yp', yg') → fX5_next fu ft er eb li st rd (-1) la dl sh tb yc yp yg = some (x, ft', er', li', rd', tu', la', dl', tb', yc', yp', yg') := by
  obtain ⟨sa, es, fl, sk, h, hT, hS⟩ := h
  have e : sk = [] := by
    rcases hT with hT | ⟨f, f1, f2, -⟩
    · exact hT.2
    · exact absurd f2.symm (nI_m1 (by have := h.2.2.2.2.2.2.1.1.2 f f1; have := h.n10; omega))
  subst e
  obtain ⟨x, ft', er', li', rd', tu', la', dl', tb', b1, sa', es', fl', b2, b3, b4⟩ := h.begin (fu := fu) rd la dl sh tb hfu
  refine ⟨x, ft', er', li', rd', tu', la', dl', tb', ?_, ⟨sa', es', fl', [], b2, b3, hS⟩, b1, fun yc yp yg yc' yp' yg' hsv => ?_⟩
  · rcases b4 with b4 | ⟨f, f1, f2, -⟩
    · exact Or.inl ⟨b4.1, sa, h.1, b4.2.2.2⟩
    · exact Or.inr ⟨f, f1, f2⟩
  · rw [fX5_next, fX1_mayBeginTurn, if_pos rfl]
    simp only [Option.bind_some, rp_t, hsv, b1]
theorem len0 {α : Type} {l : List α} (h : nI l.length = 0) (hl : l.length ≤ 1000) : l = [] := by
  refine List.length_eq_zero_iff.mp ?_
  rcases Nat.eq_zero_or_pos l.length with q | q
  · exact q
  · exact absurd h (nI_ne0 q (by omega))
/-- end: how many effects are gone by it -/
theorem end_ok (hG : GX n sa es fl [] ft er li st) (hT : PT sa fl [] tu) (hS : SHk sh) (ht : ¬ tu = -1) (hfu : 2000 < fu) :
    ∃ m er', m ≤ es.length ∧ (m = 0 → (es.filterMap (cdF tu)).length = es.length) ∧ (es.filterMap (cdF tu)).length + m = es.length ∧ GX n sa (es.filterMap (cdF tu)) fl [] ft er' li st ∧ fX1_endTurn fu er tu = some (nI m, er', -1) ∧ ∀ yc yp yg yc' yp' yg', fX2_save fu yc yp yg ft er eb li st rd tu la dl sh tb = some (yc', yp', yg') → fX5_end fu ft er eb li st rd tu la dl sh tb yc yp yg = some (nI m, er', -1, yc', yp', yg') := by
  have hl : (es.filterMap (cdF tu)).length ≤ es.length := List.length_filterMap_le _ _
  obtain ⟨er', c1, c2⟩ := hG.endT (fu := fu) tu hfu
  rw [pk_sub hl] at c1
  refine ⟨es.length - (es.filterMap (cdF tu)).length, er', by omega, by omega, by omega, c2, c1, fun yc yp yg yc' yp' yg' hsv => ?_⟩
  rw [fX5_end, fX1_mayEndTurn, if_neg ht, t_count hG.2.2.2.1]
  simp only [Option.bind_some]
  rw [if_pos (show nI ([] : List Row).length = 0 from rfl)]
  simp only [Option.bind_some, rp_t, hsv, c1]
/-- settle: how many acts happen -/
theorem settle_go (h : GX n sa es fl sk ft er li st) (hk : ¬ sk = []) {v ft' er' eb' st' tu'} (hs : fX1_settleStack fu ft er eb st tu sh = some (v, ft', er', eb', st', tu')) : ∀ yc yp yg yc' yp' yg', fX2_save fu yc yp yg ft er eb li st rd tu la dl sh tb = some (yc', yp', yg') → fX5_settle fu ft er eb li st rd tu la dl sh tb yc yp yg = some (v, ft', er', eb', st', tu', yc', yp', yg') := by
  intro yc yp yg yc' yp' yg' hsv
  have hl := h.2.2.2.1.2.2.2.1
  rw [fX5_settle, fX1_maySettle, t_count h.2.2.2.1]
  simp only [Option.bind_some]
  rw [if_neg (nI_nle (by rcases Nat.eq_zero_or_pos sk.length with q | q; exact absurd (List.length_eq_zero_iff.mp q) hk; exact q) (by omega))]
  simp only [Option.bind_some, rp_t, hsv, hs]
theorem settle_ok (h : GX n sa es fl sk ft er li st) (hT : PT sa fl sk tu) (hS : SHk sh) (hk : ¬ sk = []) (hfu : 2000 < fu) :
    ∃ v ft' er' eb' st' tu', v ≤ 8 ∧ GK n ft' er' li st' tu' sh ∧ ∀ yc yp yg yc' yp' yg', fX2_save fu yc yp yg ft er eb li st rd tu la dl sh tb = some (yc', yp', yg') → fX5_settle fu ft er eb li st rd tu la dl sh tb yc yp yg = some (nI v, ft', er', eb', st', tu', yc', yp', yg') := by
  obtain ⟨v, ft', er', eb', st', tu', s1, s2, sa', es', s3, s4⟩ := h.settle (fu := fu) eb sh hT.w hfu
  exact ⟨v, ft', er', eb', st', tu', s2, ⟨sa', es', fl, [], s3, s4, hS⟩, settle_go h hk s1⟩
/-- an act comes onto the stack -/
theorem GX.push (h : GX n sa es fl sk ft er li st) (hT : PT sa fl sk tu) (ht : ¬ tu = -1) (p0 p2 p3 p4 p5 p6 : Int32) {a : Nat} (ha : a < n) (hl : sk.length < 8) (hr : SOk n [p0, nI a, p2, p3, p4, p5, p6]) (hfu : 2000 < fu) :
    ∃ sa' ft' st', fX1_beginAct fu ft st dl p0 (nI a) p2 p3 p4 p5 p6 = some (nI (sk.length + 1), ft', st', false) ∧ GX n sa' es fl (sk ++ [[p0, nI a, p2, p3, p4, p5, p6]]) ft' er li st' ∧ PT sa' fl (sk ++ [[p0, nI a, p2, p3, p4, p5, p6]]) tu := by
  have hn := h.n10
  have hTt : ∃ f, f ∈ fl ∧ tu = nI f ∧ sa (12 + 6 * f + 4) = 1 ∧ stF sa f = true := hT.resolve_left (fun q => ht q.1)
  obtain ⟨f, f1, f2, f3, f4⟩ := hTt
  have hG0 := h
  obtain ⟨hF, hE, hL, hS, hPF, hPE, hPL, hSk⟩ := h
  have sk' : ∀ r ∈ sk ++ [[p0, nI a, p2, p3, p4, p5, p6]], SOk n r := fun r hr' => by
    rcases List.mem_append.mp hr' with q | q
    · exact hSk r q
    · rw [List.mem_singleton.mp q]; exact hr
  rw [fX1_beginAct, t_count hS]
  simp only [Option.bind_some]
  by_cases z : sk = []
  · subst z
    obtain ⟨st', c1, c2⟩ := c_pushJ (fu := fu) (ft := ft) (dl := dl) p0 (nI a) p2 p3 p4 p5 p6 hS hl hfu
    rw [if_pos (show nI ([] : List Row).length ≤ 0 by decide), c1]
    exact ⟨sa, ft, st', rfl, ⟨hF, hE, hL, c2, hPF, hPE, hPL, sk'⟩, Or.inr ⟨f, f1, f2, f3, f4⟩⟩
  · obtain ⟨ft1, g1, g2⟩ := hF.put (v := 0) ha (show 3 < 4 by decide)
    have g1 : fX4_put ft (nI a) 3 0 = some ft1 := g1
    obtain ⟨st', c1, c2⟩ := c_pushJ (fu := fu) (ft := ft1) (dl := dl) p0 (nI a) p2 p3 p4 p5 p6 hS hl hfu
    have hG : GX n (upd sa (12 + 6 * a + 3) 0) es fl sk ft1 er li st := hG0.cong g2 (hL.cong (fun x hx => pk_un (by omega))) (fun x hx => ⟨pk_un (by omega), pk_un (by omega), pk_un (by omega)⟩) (fun x hx => by rw [pk_un (by omega)]; exact hPL.2.2 x hx)
    rw [if_neg (nI_nle (by rcases Nat.eq_zero_or_pos sk.length with q | q; exact absurd (List.length_eq_zero_iff.mp q) z; exact q) (by omega)), g1]
    simp only [Option.bind_some]
    rw [c1]
    refine ⟨_, ft1, st', rfl, ⟨hG.1, hE, hG.2.2.1, c2, hG.2.2.2.2.1, hG.2.2.2.2.2.1, hG.2.2.2.2.2.2.1, sk'⟩, Or.inr ⟨f, f1, f2, by rw [pk_un (by omega)]; exact f3, by rw [stF_cong (pk_un (by omega))]; exact f4⟩⟩
theorem mayB_t {a : Nat} (h : mayB sa sk a = true) : ¬ sk = [] ∧ sk.length < 8 := by
  unfold mayB at h
  rcases List.eq_nil_or_concat sk with e | ⟨sk0, r, e⟩
  · subst e; simp at h
  · rw [List.concat_eq_append] at e
    subst e
    simp at h
    refine ⟨by simp, by simp; omega⟩
/-- who may act: whose turn it is, or who may answer -/
def okAct (sa : Nat → Int32) (sk : List Row) (tu : Int32) (a : Nat) (kind : Int32) : Prop := (sk = [] ∧ tu = nI a ∧ ¬ kind = 3) ∨ mayB sa sk a = true
theorem mayAct_ok (h : GX n sa es fl sk ft er li st) {a : Nat} (ha : a < n) {kind : Int32} (ho : okAct sa sk tu a kind) : fX1_mayAct ft st tu (nI a) kind = some true := by
  have hn := h.n10
  have hl := h.2.2.2.1.2.2.2.1
  rw [fX1_mayAct, t_count h.2.2.2.1]
  simp only [Option.bind_some]
  rcases ho with ⟨rfl, rfl, hk⟩ | hm
  · rw [if_pos (show nI ([] : List Row).length ≤ 0 by decide), if_neg (nI_m1 (by omega)), if_pos rfl, if_neg hk]
  · obtain ⟨hk, -⟩ := mayB_t hm
    rw [if_neg (nI_nle (by rcases Nat.eq_zero_or_pos sk.length with q | q; exact absurd (List.length_eq_zero_iff.mp q) hk; exact q) (by omega)), can_ok h ha, hm]
    rfl
theorem okAct_len {a : Nat} {kind : Int32} (ho : okAct sa sk tu a kind) : sk.length < 8 := by
  rcases ho with ⟨rfl, -⟩ | hm
  · decide
  · exact (mayB_t hm).2
theorem act_X (h : GX n sa es fl sk ft er li st) (hT : PT sa fl sk tu) (hS : SHk sh) (ht : ¬ tu = -1) {a t w : Nat} {kind : Int32} (ha : a < n) (htt : t < n) (hw : 1 ≤ w ∧ w ≤ 60) (hk : kind = 0 ∨ kind = 1 ∨ kind = 3) (ho : okAct sa sk tu a kind) (hfu : 2000 < fu) :
    ∃ r ft' st', r ≠ -200 ∧ GK n ft' er li st' tu sh ∧ ∀ yc yp yg yc' yp' yg', fX2_save fu yc yp yg ft er eb li st rd tu la dl sh tb = some (yc', yp', yg') → fX5_act fu ft er eb li st rd tu la dl sh tb yc yp yg (nI a) kind (nI t) (nI w) = some (r, ft', st', false, yc', yp', yg') := by
  have hl := okAct_len ho
  have hk2 : ¬ kind = 2 := by rcases hk with rfl | rfl | rfl <;> decide
  obtain ⟨sa', ft', st', c1, c2, c3⟩ := h.push (fu := fu) (dl := dl) hT ht kind (nI t) (nI w) 0 0 0 ha hl ⟨a, t, w, ha, rfl, htt, rfl, hw.2, rfl, fun q => absurd q hk2⟩ hfu
  refine ⟨nI (sk.length + 1), ft', st', nI_200 (by omega), ⟨sa', es, fl, _, c2, c3, hS⟩, fun yc yp yg yc' yp' yg' hsv => ?_⟩
  have J : fX5_act_J34 fu ft er eb li st rd tu la dl sh tb yc yp yg (nI a) kind (nI t) (nI w) = some (nI (sk.length + 1), ft', st', false, yc', yp', yg') := by
    rw [fX5_act_J34, rw_ok (show inB (nI w) 1 60 = true from inB_of (a := 1) (b := 60) hw.1 hw.2 (by decide)), mayAct_ok h ha ho]
    simp only [Option.bind_some, rp_t, hsv, c1]
  rw [fX5_act, rf_ok h.1 ha, rf_ok h.1 htt]
  simp only [Option.bind_some, J]
  rcases hk with rfl | rfl | rfl
  · rw [if_pos rfl]
  · rw [if_neg (by decide), if_pos rfl]
  · rw [if_neg (by decide), if_neg (by decide), if_pos rfl]
theorem cast_X (h : GX n sa es fl sk ft er li st) (hT : PT sa fl sk tu) (hS : SHk sh) (ht : ¬ tu = -1) {a t c w q hw9 : Nat} (ha : a < n) (htt : t < n) (hc : c ≤ 4) (hw : 1 ≤ w ∧ w ≤ 20) (hq : 1 ≤ q ∧ q ≤ 20) (hh : hw9 ≤ 3) (ho : okAct sa sk tu a 2) (hfu : 2000 < fu) :
    ∃ r ft' st', r ≠ -200 ∧ GK n ft' er li st' tu sh ∧ ∀ yc yp yg yc' yp' yg', fX2_save fu yc yp yg ft er eb li st rd tu la dl sh tb = some (yc', yp', yg') → fX5_cast fu ft er eb li st rd tu la dl sh tb yc yp yg (nI a) (nI t) (nI c) (nI w) (nI q) (nI hw9) = some (r, ft', st', false, yc', yp', yg') := by
  have hl := okAct_len ho
  obtain ⟨sa', ft', st', c1, c2, c3⟩ := h.push (fu := fu) (dl := dl) hT ht 2 (nI t) (nI w) (nI c) (nI q) (nI hw9) ha hl ⟨a, t, w, ha, rfl, htt, rfl, by omega, rfl, fun _ => ⟨q, hq.1, hq.2, rfl⟩⟩ hfu
  refine ⟨nI (sk.length + 1), ft', st', nI_200 (by omega), ⟨sa', es, fl, _, c2, c3, hS⟩, fun yc yp yg yc' yp' yg' hsv => ?_⟩
  rw [fX5_cast, rf_ok h.1 ha, rf_ok h.1 htt, rw_ok (show inB (nI c) 0 4 = true from inB_of (a := 0) (b := 4) (Nat.zero_le _) hc (by decide)), rw_ok (show inB (nI w) 1 20 = true from inB_of (a := 1) (b := 20) hw.1 hw.2 (by decide)), rw_ok (show inB (nI q) 1 20 = true from inB_of (a := 1) (b := 20) hq.1 hq.2 (by decide)), rw_ok (show inB (nI hw9) 0 3 = true from inB_of (a := 0) (b := 3) (Nat.zero_le _) hh (by decide)), mayAct_ok h ha ho]
  simp only [Option.bind_some, rp_t, hsv, c1]
end OPS
