/-! turns -/
/-- a new round: all wait -/
def zst (sa : Nat → Int32) : Nat → Int32 := fun q => if q % 6 = 4 then 0 else sa q
theorem zst_4 (sa : Nat → Int32) (f : Nat) : zst sa (12 + 6 * f + 4) = 0 := if_pos (by omega)
theorem zst_j (sa : Nat → Int32) (f : Nat) {j : Nat} (hj : j < 4) : zst sa (12 + 6 * f + j) = sa (12 + 6 * f + j) := if_neg (by omega)
theorem rnF_mem {sa : Nat → Int32} {es : List Row} : ∀ (i f : Nat), f < i → stF sa f = true → f ∈ rnF sa es i
  | i + 1, f, h, hs => by
    rw [rnF]
    by_cases e : f = i
    · subst e
      rw [if_pos hs]
      exact (ins_mem (insP_le _)).mpr (Or.inl rfl)
    · have ih := rnF_mem (es := es) i f (by omega) hs
      split
      · exact (ins_mem (insP_le _)).mpr (Or.inr ih)
      · exact ih
theorem fwF_none {sa : Nat → Int32} : ∀ {fl : List Nat}, (∀ f, f ∈ fl → stF sa f = false) → fwF sa fl = -1
  | [], _ => rfl
  | x :: t, h => by
    rw [fwF, if_neg (fun q => by rw [h x List.mem_cons_self] at q; cases q.2)]
    exact fwF_none (fun f hf => h f (List.mem_cons_of_mem _ hf))
theorem fwF_some {sa : Nat → Int32} {n : Nat} (hn : n ≤ 1000) : ∀ {fl : List Nat}, (∀ f, f ∈ fl → f < n) → fwF sa fl = -1 → ∀ f, f ∈ fl → sa (12 + 6 * f + 4) = 0 → stF sa f = false
  | x :: t, hl, h, f, hf, h4 => by
    rw [fwF] at h
    by_cases c : sa (12 + 6 * x + 4) = 0 ∧ stF sa x = true
    · rw [if_pos c] at h
      exact absurd h (nI_m1 (by have := hl x List.mem_cons_self; omega))
    · rw [if_neg c] at h
      rcases List.mem_cons.mp hf with e | hf
      · subst e
        cases hs : stF sa f with
        | false => rfl
        | true => exact absurd ⟨h4, hs⟩ c
      · exact fwF_some hn (fun y hy => hl y (List.mem_cons_of_mem _ hy)) h f hf h4
theorem GX.round {n : Nat} {sa : Nat → Int32} {es : List Row} {fl : List Nat} {sk : List Row} {ft er li st : Tab} {fu : Nat} (rd : Int32) (h : GX n sa es fl sk ft er li st) (hfu : 2000 < fu) :
    ∃ li', fX1_beginRound fu ft er li rd = some (li', rd + 1) ∧ GX n (zst sa) es (rnF sa es n) sk ft er li' st := by
  have hn := h.n10
  obtain ⟨hF, hE, hL, hS, hPF, hPE, hPL, hSk⟩ := h
  obtain ⟨li', c1, c2⟩ := c_round (fu := fu) (rd := rd) hF hE hL (by omega)
  refine ⟨li', c1, hF.cong (fun i hi j hj => zst_j sa i hj), hE, ?_, hS, fun f hf => ?_, hPE.st (fun f hf => stF_cong (zst_j sa f (j := 2) (by decide))), ⟨⟨hn, fun f hf => (rnF_lt n f hf).1⟩, rnF_nodup n, fun f hf => Or.inl (zst_4 sa f)⟩, hSk⟩
  · show TL 2 10 li' _
    rw [List.map_congr_left (g := fun f => [nI f, (0 : Int32)]) (fun f hf => by rw [zst_4])]
    exact c2
  · rw [show zst sa (12 + 6 * f) = sa (12 + 6 * f) from zst_j sa f (j := 0) (by decide), zst_j sa f (j := 2) (by decide), zst_j sa f (j := 1) (by decide)]
    exact hPF f hf
theorem GX.place {n : Nat} {sa : Nat → Int32} {es : List Row} {fl : List Nat} {sk : List Row} {ft er li st : Tab} {fu f : Nat} (h : GX n sa es fl sk ft er li st) (hf : f ∈ fl) (hfu : 2000 < fu) : ∃ k, fl[k]? = some f ∧ fX1_placeOf fu li (nI f) = some (nI k) := by
  have hPL := h.2.2.2.2.2.2.1
  have hfn := hPL.1.2 f hf
  have hn := h.n10
  obtain ⟨k, k1, k2⟩ := plF_yes (i := 0) hf
  refine ⟨k, k2, ?_⟩
  rw [c_place h.2.2.1 hPL.1 (by omega) (by omega), k1, Nat.zero_add]
/-- a fighter's turn begins -/
theorem GX.beginJ {n : Nat} {sa : Nat → Int32} {es : List Row} {fl : List Nat} {ft er li st : Tab} {fu f : Nat} (tu la : Int32) (dl : Bool) (sh tb rd : Int32) (h : GX n sa es fl [] ft er li st) (hf : f ∈ fl) (hfu : 2000 < fu) :
    ∃ ft' er' li' tu', fX1_beginTurn_J19 fu ft er tu la dl sh tb li rd (nI f) = some (nI f, ft', er', li', rd, tu', nI f, true, tb + 1) ∧ ∃ sa' es', GX n sa' es' fl [] ft' er' li' st ∧ PT sa' fl [] tu' := by
  have hn := h.n10
  have hPL := h.2.2.2.2.2.2.1
  have hfn := hPL.1.2 f hf
  obtain ⟨k0, p1, p2⟩ := h.place (fu := fu) hf hfu
  obtain ⟨li', l1, l2⟩ := h.2.2.1.put (v := 1) p1 hPL.2.1
  have hF1 : FC ft (upd sa (12 + 6 * f + 4) 1) n := h.1.cong (fun i hi j hj => pk_un (by omega))
  obtain ⟨ft1, f1, f2⟩ := hF1.put (v := 1) hfn (show 3 < 4 by decide)
  have f1 : fX4_put ft (nI f) 3 1 = some ft1 := f1
  have hst4 : ∀ x, upd (upd sa (12 + 6 * f + 4) 1) (12 + 6 * f + 3) 1 (12 + 6 * x + 4) = if x = f then 1 else sa (12 + 6 * x + 4) := by
    intro x
    rw [pk_un (by omega)]
    by_cases e : x = f
    · rw [if_pos e, e, pk_us]
    · rw [if_neg e, pk_un (by omega)]
  have hG : GX n (upd (upd sa (12 + 6 * f + 4) 1) (12 + 6 * f + 3) 1) es fl [] ft1 er li' st := by
    refine h.cong f2 (l2.cong (fun x hx => pk_un (by omega))) (fun x hx => ⟨by rw [pk_un (by omega), pk_un (by omega)], by rw [pk_un (by omega), pk_un (by omega)], by rw [pk_un (by omega), pk_un (by omega)]⟩) (fun x hx => ?_)
    rw [hst4]
    by_cases e : x = f
    · rw [if_pos e]; exact Or.inr rfl
    · rw [if_neg e]; exact hPL.2.2 x hx
  obtain ⟨sa2, es2, ft2, er2, c1, hG2, c3⟩ := hG.poison (fu := fu) sh hfn hfu
  have h4 : sa2 (12 + 6 * f + 4) = 1 := by rw [c3 f, hst4, if_pos rfl]
  have ct := c_stands hG2.1 hfn
  have cp := c_psum (fu := fu) (nI f) 4 hG2.2.1 (by omega)
  obtain ⟨er3, d1, d2⟩ := hG2.endT (fu := fu) (nI f) hfu
  have C0 : fX1_beginTurn_J19 fu ft er tu la dl sh tb li rd (nI f) = (if bI (stF sa2 f) = 0 then some (nI f, ft2, er2, li', rd, (-1 : Int32), nI f, true, tb + 1) else if psumF (nI f) 4 es2 0 ≤ 0 then some (nI f, ft2, er2, li', rd, nI f, nI f, true, tb + 1) else some (nI f, ft2, er3, li', rd, (-1 : Int32), nI f, true, tb + 1)) := by
    rw [fX1_beginTurn_J19, if_neg (nI_m1 (by omega)), fX1_takeTurn, p2]
    simp only [Option.bind_some, l1, f1, c1, ct, cp, d1]
  rw [C0]
  cases hs : stF sa2 f with
  | false =>
    rw [if_pos bI_ff]
    exact ⟨ft2, er2, li', -1, rfl, sa2, es2, hG2, Or.inl ⟨rfl, rfl⟩⟩
  | true =>
    rw [if_neg bI_t]
    by_cases z2 : psumF (nI f) 4 es2 0 ≤ 0
    · rw [if_pos z2]
      exact ⟨ft2, er2, li', nI f, rfl, sa2, es2, hG2, Or.inr ⟨f, hf, rfl, h4, hs⟩⟩
    · rw [if_neg z2]
      exact ⟨ft2, er3, li', -1, rfl, sa2, _, d2, Or.inl ⟨rfl, rfl⟩⟩
/-- the next turn begins -/
theorem GX.begin {n : Nat} {sa : Nat → Int32} {es : List Row} {fl : List Nat} {ft er li st : Tab} {fu : Nat} (rd la : Int32) (dl : Bool) (sh tb : Int32) (h : GX n sa es fl [] ft er li st) (hfu : 2000 < fu) :
    ∃ x ft' er' li' rd' tu' la' dl' tb', fX1_beginTurn fu ft er li rd (-1) la dl sh tb = some (x, ft', er', li', rd', tu', la', dl', tb') ∧ ∃ sa' es' fl', GX n sa' es' fl' [] ft' er' li' st ∧ PT sa' fl' [] tu' ∧ ((x = -1 ∧ tu' = -1 ∧ ft' = ft ∧ ∀ f, f < n → stF sa f = false) ∨ ∃ f, f < n ∧ x = nI f ∧ stF sa f = true) := by
  have hn := h.n10
  have hPL := h.2.2.2.2.2.2.1
  rw [fX1_beginTurn, c_fw h.1 h.2.2.1 hPL.1 (show 30 < fu by omega)]
  simp only [Option.bind_some]
  rcases fwF_cases sa fl with e | ⟨f, f1, f2, f3, f4⟩
  · rw [e, if_pos rfl]
    obtain ⟨li1, r1, r2⟩ := h.round (fu := fu) rd hfu
    rw [r1]
    simp only [Option.bind_some]
    rw [c_fw r2.1 r2.2.2.1 r2.2.2.2.2.2.2.1.1 (show 30 < fu by omega)]
    simp only [Option.bind_some]
    have hz : ∀ f, stF (zst sa) f = stF sa f := fun f => stF_cong (zst_j sa f (j := 2) (by decide))
    rcases fwF_cases (zst sa) (rnF sa es n) with e2 | ⟨f, f1, f2, f3, f4⟩
    · rw [e2, fX1_beginTurn_J19, if_pos rfl]
      refine ⟨_, _, _, _, _, _, _, _, _, rfl, zst sa, es, rnF sa es n, r2, Or.inl ⟨rfl, rfl⟩, Or.inl ⟨rfl, rfl, rfl, fun f hf => ?_⟩⟩
      cases hs : stF sa f with
      | false => rfl
      | true =>
        have := fwF_some (n := n) (by omega) (fun y hy => (rnF_lt n y hy).1) e2 f (rnF_mem n f hf hs) (zst_4 sa f)
        rw [hz, hs] at this
        cases this
    · rw [f2]
      obtain ⟨ft', er', li', tu', b1, sa', es', b2, b3⟩ := r2.beginJ (fu := fu) (-1) la dl sh tb (rd + 1) f1 hfu
      refine ⟨_, _, _, _, _, _, _, _, _, b1, sa', es', _, b2, b3, Or.inr ⟨f, (rnF_lt n f f1).1, rfl, (rnF_lt n f f1).2⟩⟩
  · rw [f2, if_neg (nI_m1 (by have := hPL.1.2 f f1; omega))]
    obtain ⟨ft', er', li', tu', b1, sa', es', b2, b3⟩ := h.beginJ (fu := fu) (-1) la dl sh tb rd f1 hfu
    exact ⟨_, _, _, _, _, _, _, _, _, b1, sa', es', fl, b2, b3, Or.inr ⟨f, hPL.1.2 f f1, rfl, f4⟩⟩
/-! acts -/
theorem psum_n {n : Nat} {sa : Nat → Int32} {f q : Int32} : ∀ {es : List Row} {s0 : Nat}, (∀ r ∈ es, EOk n sa r) → ∃ s, s ≤ s0 + 60 * es.length ∧ psumF f q es (nI s0) = nI s
  | [], s0, _ => ⟨s0, by simp, rfl⟩
  | r :: t, s0, h => by
    have ht : ∀ x ∈ t, EOk n sa x := fun x hx => h x (List.mem_cons_of_mem _ hx)
    obtain ⟨-, a, b, p, q', -, -, -, -, p1, p2, -⟩ := h r List.mem_cons_self
    rw [psumF]
    by_cases e : gD r 3 = f ∧ gD r 0 = q
    · rw [if_pos e, p2, nI_add]
      obtain ⟨s, a, b⟩ := psum_n (f := f) (q := q) (s0 := s0 + p) ht
      exact ⟨s, by simp; omega, b⟩
    · rw [if_neg e]
      obtain ⟨s, a, b⟩ := psum_n (f := f) (q := q) (s0 := s0) ht
      exact ⟨s, by simp; omega, b⟩
/-- once its hold is ended a source holds nothing -/
theorem stopF_none {f : Int32} : ∀ {es : List Row}, HUn es → ∀ r ∈ stopF f es, ¬ (gD r 6 = 1 ∧ gD r 2 = f)
  | x :: t, h, r, hr => by
    obtain ⟨h1, h2⟩ := List.pairwise_cons.mp h
    rw [stopF] at hr
    by_cases c : gD x 6 = 1 ∧ gD x 2 = f
    · rw [if_pos c] at hr
      exact fun q => h1 r hr ⟨c.1, q.1, c.2.trans q.2.symm⟩
    · rw [if_neg c] at hr
      rcases List.mem_cons.mp hr with e | hr
      · rw [e]; exact c
      · exact stopF_none h2 r hr
theorem GX.effect {n : Nat} {sa : Nat → Int32} {es : List Row} {fl : List Nat} {sk : List Row} {ft er li st : Tab} {fu a t w q : Nat} (eb c how : Int32) (h : GX n sa es fl sk ft er li st) (ha : a < n) (ht : t < n) (hsa : stF sa a = true) (hst : stF sa t = true) (hw : w ≤ 60) (q1 : 1 ≤ q) (q2 : q ≤ 20) (hfu : 2000 < fu) :
    ∃ es' er' eb', fX0_begin fu er eb c (nI w) (nI a) (nI t) (nI q) how = some (er', eb') ∧ GX n sa es' fl sk ft er' li st := by
  obtain ⟨hF, hE, hL, hS, hPF, hPE, hPL, hSk⟩ := h
  have key : ∀ (es1 : List Row) (er1 : Tab) (v7 : Int32), EC er1 es1 → PE n sa es1 → (v7 = 1 → ∀ r ∈ es1, ¬ (gD r 6 = 1 ∧ gD r 2 = nI a)) → ∃ es' er' eb', fX0_begin_J17 fu eb c (nI w) (nI a) (nI t) (nI q) how er1 v7 = some (er', eb') ∧ GX n sa es' fl sk ft er' li st := by
    intro es1 er1 v7 hE1 hP1 hv
    obtain ⟨g1, g2⟩ := c_begE (fu := fu) (eb := eb) c (nI w) (nI a) (nI t) (nI q) how v7 hE1 hfu
    have hle := hE1.le
    by_cases e : es1.length = 30
    · exact ⟨es1, er1, eb, g1 e, hF, hE1, hL, hS, hPF, hP1, hPL, hSk⟩
    · obtain ⟨er', x1, x2⟩ := g2 (by omega)
      refine ⟨_, er', eb + 1, x1, hF, x2, hL, hS, hPF, ⟨fun r hr => ?_, ?_⟩, hPL, hSk⟩
      · rcases List.mem_append.mp hr with hr | hr
        · exact hP1.1 r hr
        · rw [List.mem_singleton.mp hr]
          exact ⟨rfl, a, t, w, q, ha, rfl, ht, rfl, hw, rfl, q1, q2, rfl, hst, fun z => by rw [hsa] at z; cases z⟩
      · refine List.pairwise_append.mpr ⟨hP1.2, List.pairwise_singleton _ _, fun x hx y hy => ?_⟩
        rw [List.mem_singleton.mp hy]
        intro z
        exact hv z.2.1 x hx ⟨z.1, z.2.2⟩
  rw [fX0_begin]
  by_cases zh : (how - how / (2 : Int32) * (2 : Int32)) = (1 : Int32)
  · rw [if_pos zh]
    obtain ⟨er1, s1, s2⟩ := c_stop (fu := fu) (nI a) hE (by omega)
    rw [s1]
    simp only [Option.bind_some]
    exact key _ er1 _ s2 (hPE.sub (stopF_sub _ _)) (fun _ => stopF_none hPE.2)
  · rw [if_neg zh]
    exact key es er _ hE hPE (fun z => absurd z zh)
/-- an act happens -/
theorem GX.happen {n : Nat} {sa : Nat → Int32} {es : List Row} {fl : List Nat} {sk : List Row} {r : Row} {ft er li st : Tab} {fu : Nat} (eb sh : Int32) (h : GX n sa es fl sk ft er li st) (so : SOk n r) {a t : Nat} (ha : a < n) (h1 : gD r 1 = nI a) (hsa : stF sa a = true) (ht : t < n) (h2 : gD r 2 = nI t) (hst : gD r 0 ≠ 3 → stF sa t = true) (hfu : 2000 < fu) :
    ∃ sa' es' sk' ft' er' eb' st', fX1_settleTop_J81 fu ft er eb sh st (gD r 0) (gD r 1) (gD r 2) (gD r 3) (gD r 4) (gD r 5) (gD r 6) = some (true, ft', er', eb', st') ∧ GX n sa' es' fl sk' ft' er' li st' ∧ stEq sa sa' ∧ sk'.length ≤ sk.length := by
  obtain ⟨-, -, w, -, -, -, -, hw, h3, h5⟩ := so
  rw [fX1_settleTop_J81]
  by_cases z0 : gD r 0 = 0
  · rw [if_pos z0, h2, h3, c_psum (fu := fu) (nI t) 3 h.2.1 (by omega)]
    simp only [Option.bind_some]
    obtain ⟨S, s1, s2⟩ := psum_n (f := nI t) (q := 3) (s0 := 0) h.2.2.2.2.2.1.1
    have hle := h.2.1.le
    have s2 : psumF (nI t) 3 es 0 = nI S := s2
    have e : (if (0 : Int32) < nI w - psumF (nI t) 3 es 0 then nI w - psumF (nI t) 3 es 0 else 0) = nI (w - S) := by
      rw [s2]
      by_cases z : S < w
      · rw [pk_sub (by omega), if_pos (show (0 : Int32) < nI (w - S) from nI_lt (a := 0) (by omega) (by omega))]
      · rw [if_neg, Nat.sub_eq_zero_of_le (by omega)]
        · rfl
        · rcases Nat.lt_or_ge w S with y | y
          · exact fun q => absurd (pk_sneg (by omega) y) (by rw [Int32.lt_iff_toInt_lt] at q ⊢; rw [show (0 : Int32).toInt = 0 from rfl] at q ⊢; omega)
          · have : w = S := by omega
            rw [this, pk_sub (Nat.le_refl _), Nat.sub_self]
            decide
    rw [e]
    obtain ⟨sa', es', ft', er', c1, c2, c3⟩ := h.harm (fu := fu) (w := w - S) sh ht (by omega) hfu
    rw [c1]
    exact ⟨sa', es', sk, ft', er', eb, st, rfl, c2, c3, Nat.le_refl _⟩
  · rw [if_neg z0]
    by_cases z1 : gD r 0 = 1
    · rw [if_pos z1, h2, h3]
      obtain ⟨sa', ft', c1, c2, c3⟩ := h.heal (w := w) ht (by omega) (hst (by rw [z1]; decide))
      rw [c1]
      exact ⟨sa', es, sk, ft', er, eb, st, rfl, c2, c3, Nat.le_refl _⟩
    · rw [if_neg z1]
      by_cases z2 : gD r 0 = 2
      · rw [if_pos z2]
        obtain ⟨q, q1, q2, q3⟩ := h5 z2
        rw [h1, h2, h3, q3]
        obtain ⟨es', er', eb', c1, c2⟩ := h.effect (fu := fu) eb (gD r 4) (gD r 6) ha ht hsa (hst (by rw [z2]; decide)) hw q1 q2 hfu
        rw [c1]
        exact ⟨sa, es', sk, ft, er', eb', st, rfl, c2, fun _ => rfl, Nat.le_refl _⟩
      · rw [if_neg z2]
        obtain ⟨hF, hE, hL, hS, hPF, hPE, hPL, hSk⟩ := h
        rcases List.eq_nil_or_concat sk with e | ⟨sk0, x, e⟩
        · subst e
          rw [fX1_dropTop, t_count hS]
          simp only [Option.bind_some]
          rw [t_remove_neg (show nI ([] : List Row).length - 1 < 0 by decide)]
          exact ⟨sa, es, [], ft, er, eb, st, rfl, ⟨hF, hE, hL, hS, hPF, hPE, hPL, hSk⟩, fun _ => rfl, Nat.le_refl _⟩
        · rw [List.concat_eq_append] at e
          subst e
          obtain ⟨st', c1, c2⟩ := c_drop hS
          rw [c1]
          exact ⟨sa, es, sk0, ft, er, eb, st', rfl, ⟨hF, hE, hL, c2, hPF, hPE, hPL, fun y hy => hSk y (List.mem_append_left _ hy)⟩, fun _ => rfl, by simp⟩
/-- the topmost act is settled -/
theorem GX.top {n : Nat} {sa : Nat → Int32} {es : List Row} {fl : List Nat} {sk : List Row} {r : Row} {ft er li st : Tab} {fu : Nat} (eb sh : Int32) (h : GX n sa es fl (sk ++ [r]) ft er li st) (hfu : 2000 < fu) :
    ∃ b sa' es' sk' ft' er' eb' st', fX1_settleTop fu ft er eb st sh = some (b, ft', er', eb', st') ∧ GX n sa' es' fl sk' ft' er' li st' ∧ stEq sa sa' ∧ sk'.length ≤ sk.length := by
  obtain ⟨hF, hE, hL, hS, hPF, hPE, hPL, hSk⟩ := h
  obtain ⟨st1, c1, c2⟩ := c_drop hS
  have hr := hSk r (by simp)
  have hG : GX n sa es fl sk ft er li st1 := ⟨hF, hE, hL, c2, hPF, hPE, hPL, fun y hy => hSk y (List.mem_append_left _ hy)⟩
  have a0 : fX1_aboutAct st 0 0 = some (gD r 0) := c_topAct hS (j := 0) (by decide)
  have a1 : fX1_aboutAct st 0 1 = some (gD r 1) := c_topAct hS (j := 1) (by decide)
  have a2 : fX1_aboutAct st 0 2 = some (gD r 2) := c_topAct hS (j := 2) (by decide)
  have a3 : fX1_aboutAct st 0 3 = some (gD r 3) := c_topAct hS (j := 3) (by decide)
  have a4 : fX1_aboutAct st 0 4 = some (gD r 4) := c_topAct hS (j := 4) (by decide)
  have a5 : fX1_aboutAct st 0 5 = some (gD r 5) := c_topAct hS (j := 5) (by decide)
  have a6 : fX1_aboutAct st 0 6 = some (gD r 6) := c_topAct hS (j := 6) (by decide)
  have hr0 := hr
  obtain ⟨a, t, w, h1, h2, h3, h4, -⟩ := hr
  have s1 : fX1_stands ft (gD r 1) = some (stF sa a) := by rw [h2]; exact c_stands hF h1
  have s2 : fX1_stands ft (gD r 2) = some (stF sa t) := by rw [h4]; exact c_stands hF h3
  rw [fX1_settleTop]
  simp only [a0, a1, a2, a3, a4, a5, a6, c1, s1, s2, Option.bind_some]
  cases hsa : stF sa a with
  | false =>
    rw [if_pos bI_ff]
    exact ⟨false, sa, es, sk, ft, er, eb, st1, rfl, hG, fun _ => rfl, Nat.le_refl _⟩
  | true =>
    rw [if_neg bI_t]
    by_cases z3 : gD r 0 = 3
    · rw [if_pos z3]
      obtain ⟨sa', es', sk', ft', er', eb', st', x1, x2, x3, x4⟩ := hG.happen (fu := fu) eb sh hr0 h1 h2 hsa h3 h4 (fun q => absurd z3 q) hfu
      exact ⟨true, sa', es', sk', ft', er', eb', st', x1, x2, x3, x4⟩
    · rw [if_neg z3]
      cases hst : stF sa t with
      | false =>
        rw [if_pos bI_ff]
        exact ⟨false, sa, es, sk, ft, er, eb, st1, rfl, hG, fun _ => rfl, Nat.le_refl _⟩
      | true =>
        rw [if_neg bI_t]
        obtain ⟨sa', es', sk', ft', er', eb', st', x1, x2, x3, x4⟩ := hG.happen (fu := fu) eb sh hr0 h1 h2 hsa h3 h4 (fun _ => hst) hfu
        exact ⟨true, sa', es', sk', ft', er', eb', st', x1, x2, x3, x4⟩
/-- who has fallen has no turn -/
theorem GX.settleJ {n : Nat} {sa : Nat → Int32} {es : List Row} {fl : List Nat} {ft er li st : Tab} {fu : Nat} {tu : Int32} (sh eb v1 : Int32) (h : GX n sa es fl [] ft er li st) (ht : PW sa fl tu) :
    ∃ tu', fX1_settleStack_J36 fu tu sh ft er eb st v1 = some (v1, ft, er, eb, st, tu') ∧ PT sa fl [] tu' := by
  rw [fX1_settleStack_J36]
  rcases ht with rfl | ⟨f, f1, rfl, f3⟩
  · rw [if_pos rfl]
    exact ⟨-1, rfl, Or.inl ⟨rfl, rfl⟩⟩
  · have hfn := h.2.2.2.2.2.2.1.1.2 f f1
    have hn := h.n10
    rw [if_neg (nI_m1 (by omega)), c_stands h.1 hfn]
    simp only [Option.bind_some]
    cases hs : stF sa f with
    | false => rw [if_pos bI_ff]; exact ⟨-1, rfl, Or.inl ⟨rfl, rfl⟩⟩
    | true => rw [if_neg bI_t]; exact ⟨nI f, rfl, Or.inr ⟨f, f1, rfl, f3, hs⟩⟩
theorem GX.settleL {n : Nat} {fl : List Nat} {li : Tab} {fu : Nat} {tu : Int32} (sh : Int32) (hfu : 2000 < fu) : ∀ (d i k v : Nat) (sa : Nat → Int32) (es : List Row) (sk : List Row) (ft er : Tab) (eb : Int32) (st : Tab), i + d = 8 → sk.length ≤ d → d < k → v ≤ i → GX n sa es fl sk ft er li st → PW sa fl tu → ∃ v' ft' er' eb' st' tu', fX1_settleStack_L4 fu tu sh k ft er eb st (nI v) (nI i) = some (nI v', ft', er', eb', st', tu') ∧ v' ≤ 8 ∧ ∃ sa' es', GX n sa' es' fl [] ft' er' li st' ∧ PT sa' fl [] tu'
  | 0, i, k + 1, v, sa, es, sk, ft, er, eb, st, hd, hl, hk, hv, h, ht => by
    have e : sk = [] := List.length_eq_zero_iff.mp (by omega)
    subst e
    obtain ⟨tu', j1, j2⟩ := h.settleJ (fu := fu) sh eb (nI v) ht
    rw [fX1_settleStack_L4, if_pos (show (8 : Int32) ≤ nI i from nI_le (a := 8) (by omega) (by omega)), j1]
    exact ⟨v, ft, er, eb, st, tu', rfl, by omega, sa, es, h, j2⟩
  | d + 1, i, k + 1, v, sa, es, sk, ft, er, eb, st, hd, hl, hk, hv, h, ht => by
    rw [fX1_settleStack_L4, if_neg (show ¬ (8 : Int32) ≤ nI i from nI_ge (b := 8) (by omega) (by omega)), t_count h.2.2.2.1]
    simp only [Option.bind_some]
    rcases List.eq_nil_or_concat sk with e | ⟨sk0, x, e⟩
    · subst e
      obtain ⟨tu', j1, j2⟩ := h.settleJ (fu := fu) sh eb (nI v) ht
      rw [if_pos (show nI ([] : List Row).length ≤ 0 by decide), j1]
      exact ⟨v, ft, er, eb, st, tu', rfl, by omega, sa, es, h, j2⟩
    · rw [List.concat_eq_append] at e
      subst e
      simp at hl
      rw [if_neg (show ¬ nI (sk0 ++ [x]).length ≤ 0 from nI_nle (by simp) (by simp; omega))]
      obtain ⟨b, sa1, es1, sk1, ft1, er1, eb1, st1, c1, c2, c3, c4⟩ := h.top (fu := fu) eb sh hfu
      rw [c1]
      simp only [Option.bind_some]
      have ht1 := ht.st c3
      cases b with
      | false =>
        rw [if_pos bI_ff, nS]
        exact GX.settleL sh hfu d (i + 1) k v sa1 es1 sk1 ft1 er1 eb1 st1 (by omega) (by omega) (by omega) (by omega) c2 ht1
      | true =>
        rw [if_neg bI_t, nS, nS]
        exact GX.settleL sh hfu d (i + 1) k (v + 1) sa1 es1 sk1 ft1 er1 eb1 st1 (by omega) (by omega) (by omega) (by omega) c2 ht1
theorem PT.w {sa : Nat → Int32} {fl : List Nat} {sk : List Row} {tu : Int32} (h : PT sa fl sk tu) : PW sa fl tu := by
  rcases h with h | ⟨f, f1, f2, f3, -⟩
  · exact Or.inl h.1
  · exact Or.inr ⟨f, f1, f2, f3⟩
theorem GX.settle {n : Nat} {sa : Nat → Int32} {es : List Row} {fl : List Nat} {sk : List Row} {ft er li st : Tab} {fu : Nat} {tu : Int32} (eb sh : Int32) (h : GX n sa es fl sk ft er li st) (ht : PW sa fl tu) (hfu : 2000 < fu) :
    ∃ v' ft' er' eb' st' tu', fX1_settleStack fu ft er eb st tu sh = some (nI v', ft', er', eb', st', tu') ∧ v' ≤ 8 ∧ ∃ sa' es', GX n sa' es' fl [] ft' er' li st' ∧ PT sa' fl [] tu' :=
  GX.settleL sh hfu 8 0 fu 0 sa es sk ft er eb st rfl h.2.2.2.1.2.2.2.1 (by omega) (Nat.le_refl _) h ht
