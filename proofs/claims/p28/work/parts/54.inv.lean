/-! what holds of a game -/
/-- an act on the stack -/
def SOk (n : Nat) (r : Row) : Prop := ∃ a t w : Nat, a < n ∧ gD r 1 = nI a ∧ t < n ∧ gD r 2 = nI t ∧ w ≤ 60 ∧ gD r 3 = nI w ∧ (gD r 0 = 2 → ∃ q : Nat, 1 ≤ q ∧ q ≤ 20 ∧ gD r 5 = nI q)
/-- an effect: its target stands; if its source has fallen it is not held, and its clock is the target's -/
def EOk (n : Nat) (sa : Nat → Int32) (r : Row) : Prop := r.length = 8 ∧ ∃ a t p q : Nat, a < n ∧ gD r 2 = nI a ∧ t < n ∧ gD r 3 = nI t ∧ p ≤ 60 ∧ gD r 1 = nI p ∧ 1 ≤ q ∧ q ≤ 20 ∧ gD r 4 = nI q ∧ stF sa t = true ∧ (stF sa a = false → ¬ gD r 6 = 1 ∧ ¬ gD r 5 = 0)
/-- no two held effects have one source -/
def HUn (es : List Row) : Prop := es.Pairwise (fun a b => ¬ (gD a 6 = 1 ∧ gD b 6 = 1 ∧ gD a 2 = gD b 2))
def PE (n : Nat) (sa : Nat → Int32) (es : List Row) : Prop := (∀ r ∈ es, EOk n sa r) ∧ HUn es
def PF (n : Nat) (sa : Nat → Int32) : Prop := ∀ f, f < n → ∃ sp lf fi : Nat, 1 ≤ sp ∧ sp ≤ 30 ∧ lf ≤ fi ∧ 1 ≤ fi ∧ fi ≤ 200 ∧ sa (12 + 6 * f) = nI sp ∧ sa (12 + 6 * f + 2) = nI lf ∧ sa (12 + 6 * f + 1) = nI fi
def PL (n : Nat) (sa : Nat → Int32) (fl : List Nat) : Prop := LN fl n ∧ fl.Nodup ∧ ∀ f, f ∈ fl → sa (12 + 6 * f + 4) = 0 ∨ sa (12 + 6 * f + 4) = 1
/-- the turn, perhaps of one that has fallen -/
def PW (sa : Nat → Int32) (fl : List Nat) (tu : Int32) : Prop := tu = -1 ∨ ∃ f, f ∈ fl ∧ tu = nI f ∧ sa (12 + 6 * f + 4) = 1
def PT (sa : Nat → Int32) (fl : List Nat) (sk : List Row) (tu : Int32) : Prop := (tu = -1 ∧ sk = []) ∨ ∃ f, f ∈ fl ∧ tu = nI f ∧ sa (12 + 6 * f + 4) = 1 ∧ stF sa f = true
def GX (n : Nat) (sa : Nat → Int32) (es : List Row) (fl : List Nat) (sk : List Row) (ft er li st : Tab) : Prop :=
  FC ft sa n ∧ EC er es ∧ LC li sa fl ∧ TL 7 8 st sk ∧ PF n sa ∧ PE n sa es ∧ PL n sa fl ∧ ∀ r ∈ sk, SOk n r
theorem GX.n10 {n : Nat} {sa : Nat → Int32} {es : List Row} {fl : List Nat} {sk : List Row} {ft er li st : Tab} (h : GX n sa es fl sk ft er li st) : n ≤ 10 := h.1.2
theorem GX.z {n : Nat} {sa : Nat → Int32} {es : List Row} {fl : List Nat} {sk : List Row} {ft er li st : Tab} (h : GX n sa es fl sk ft er li st) : GZ ft er li st := ⟨TL.z h.1.1, TL.z h.2.1, TL.z h.2.2.1, TL.z h.2.2.2.1⟩
theorem stF_upd {sa : Nat → Int32} {i v : Nat} (f : Nat) (hv : v ≤ 1000) : stF (upd sa (12 + 6 * i + 2) (nI v)) f = if f = i then decide (0 < v) else stF sa f := by
  by_cases e : f = i
  · rw [if_pos e, e, stF_nI pk_us hv]
  · rw [if_neg e]; unfold stF; rw [pk_un (by omega)]
theorem stF_cong {sa sa' : Nat → Int32} {f : Nat} (h : sa' (12 + 6 * f + 2) = sa (12 + 6 * f + 2)) : stF sa' f = stF sa f := by unfold stF; rw [h]
theorem EOk.st {n : Nat} {sa sa' : Nat → Int32} {r : Row} (hs : ∀ f, f < n → stF sa' f = stF sa f) (h : EOk n sa r) : EOk n sa' r := by
  obtain ⟨hl, a, t, p, q, h1, h2, h3, h4, h5, h6, h7, h8, h9, h10, h11⟩ := h
  exact ⟨hl, a, t, p, q, h1, h2, h3, h4, h5, h6, h7, h8, h9, by rw [hs t h3]; exact h10, fun e => h11 (by rw [← hs a h1]; exact e)⟩
theorem EOk.grow {n n' : Nat} {sa : Nat → Int32} {r : Row} (hn : n ≤ n') (h : EOk n sa r) : EOk n' sa r := by
  obtain ⟨hl, a, t, p, q, h1, h2, h3, h4, h⟩ := h
  exact ⟨hl, a, t, p, q, Nat.lt_of_lt_of_le h1 hn, h2, Nat.lt_of_lt_of_le h3 hn, h4, h⟩
theorem SOk.grow {n n' : Nat} {r : Row} (hn : n ≤ n') (h : SOk n r) : SOk n' r := by
  obtain ⟨a, t, w, h1, h2, h3, h4, h⟩ := h
  exact ⟨a, t, w, Nat.lt_of_lt_of_le h1 hn, h2, Nat.lt_of_lt_of_le h3 hn, h4, h⟩
theorem PE.st {n : Nat} {sa sa' : Nat → Int32} {es : List Row} (hs : ∀ f, f < n → stF sa' f = stF sa f) (h : PE n sa es) : PE n sa' es := ⟨fun r hr => (h.1 r hr).st hs, h.2⟩
theorem PE.sub {n : Nat} {sa : Nat → Int32} {es es' : List Row} (hs : es'.Sublist es) (h : PE n sa es) : PE n sa es' := ⟨fun r hr => h.1 r (hs.subset hr), h.2.sublist hs⟩
/-- a turn's end changes the turns that are left alone -/
theorem cdF_cols {f : Int32} {r r' : Row} (h : cdF f r = some r') : (∀ j, j ≠ 4 → gD r' j = gD r j) ∧ r'.length = r.length ∧ ∀ q : Nat, 1 ≤ q → q ≤ 20 → r.length = 8 → gD r 4 = nI q → ∃ q' : Nat, 1 ≤ q' ∧ q' ≤ 20 ∧ gD r' 4 = nI q' := by
  unfold cdF at h
  generalize (if gD r 5 = 0 then gD r 2 else gD r 3) = z at h
  by_cases h1 : z = f
  · rw [if_pos h1] at h
    by_cases h2 : 0 < gD r 4 - 1
    · rw [if_pos h2] at h
      cases h
      refine ⟨fun j hj => by rw [gD_eq (r.set 4 _) j, gD_eq r j, List.getElem?_set, if_neg (fun e => hj e.symm)], List.length_set, fun q b1 b2 hl b3 => ?_⟩
      obtain ⟨m, rfl⟩ : ∃ m, q = m + 1 := ⟨q - 1, by omega⟩
      rw [b3, nI_pred] at h2
      refine ⟨m, ?_, by omega, ?_⟩
      · rcases Nat.eq_zero_or_pos m with z | z
        · rw [z] at h2; exact absurd h2 (by decide)
        · exact z
      · rw [gD_eq, List.getElem?_set, if_pos rfl, if_pos (by omega), b3, nI_pred]; rfl
    · rw [if_neg h2] at h; cases h
  · rw [if_neg h1] at h
    cases h
    exact ⟨fun _ _ => rfl, rfl, fun q b1 b2 _ b3 => ⟨q, b1, b2, b3⟩⟩
theorem HUn_cd {f : Int32} : ∀ {es : List Row}, HUn es → HUn (es.filterMap (cdF f))
  | [], _ => List.Pairwise.nil
  | r :: t, h => by
    obtain ⟨h1, h2⟩ := List.pairwise_cons.mp h
    have ih := HUn_cd (f := f) h2
    rw [List.filterMap_cons]
    cases hc : cdF f r with
    | none => exact ih
    | some r' =>
      refine List.pairwise_cons.mpr ⟨fun x hx => ?_, ih⟩
      obtain ⟨y, y1, y2⟩ := List.mem_filterMap.mp hx
      have a := (cdF_cols hc).1
      have b := (cdF_cols y2).1
      rw [a 6 (by decide), a 2 (by decide), b 6 (by decide), b 2 (by decide)]
      exact h1 y y1
theorem PE.cd {n : Nat} {sa : Nat → Int32} {es : List Row} (f : Int32) (h : PE n sa es) : PE n sa (es.filterMap (cdF f)) := by
  refine ⟨fun r' hr' => ?_, HUn_cd h.2⟩
  obtain ⟨r, r1, r2⟩ := List.mem_filterMap.mp hr'
  obtain ⟨a, b, c⟩ := cdF_cols r2
  obtain ⟨hl, x, t, p, q, h1, h2, h3, h4, h5, h6, h7, h8, h9, h10, h11⟩ := h.1 r r1
  obtain ⟨q', q1, q2, q3⟩ := c q h7 h8 hl h9
  refine ⟨b.trans hl, x, t, p, q', h1, (a 2 (by decide)).trans h2, h3, (a 3 (by decide)).trans h4, h5, (a 1 (by decide)).trans h6, q1, q2, q3, h10, fun e => ?_⟩
  rw [a 6 (by decide), a 5 (by decide)]
  exact h11 e
theorem keepF_t {f : Int32} {r : Row} (h : keepF f r = true) : ¬ gD r 3 = f ∧ (gD r 2 = f → ¬ gD r 6 = 1 ∧ ¬ gD r 5 = 0) := by
  unfold keepF at h
  by_cases a : gD r 3 = f <;> by_cases b : gD r 2 = f <;> by_cases c : gD r 6 = 1 <;> by_cases d : gD r 5 = 0 <;> simp_all
/-- harm: who falls has no effect, and none that he holds or that goes by his turns -/
theorem PE.hurt {n : Nat} {sa : Nat → Int32} {es : List Row} {i lf w : Nat} (sh : Int32) (h : PE n sa es) (hn : n ≤ 10) (hi : i < n) (hlf : sa (12 + 6 * i + 2) = nI lf) (hl : lf ≤ 200) : PE n (upd sa (12 + 6 * i + 2) (nI (lf - w))) (hurtE sh es i lf w) := by
  unfold hurtE
  by_cases e : lf ≤ w
  · rw [if_pos e]
    refine ⟨fun r hr => ?_, h.2.sublist List.filter_sublist⟩
    obtain ⟨r1, r2⟩ := List.mem_filter.mp hr
    obtain ⟨k3, k2⟩ := keepF_t r2
    obtain ⟨hl8, a, t, p, q, h1, h2, h3, h4, h5, h6, h7, h8, h9, h10, h11⟩ := h.1 r r1
    have ht : t ≠ i := fun z => k3 (by rw [h4, z])
    refine ⟨hl8, a, t, p, q, h1, h2, h3, h4, h5, h6, h7, h8, h9, by rw [stF_upd t (by omega), if_neg ht]; exact h10, fun z => ?_⟩
    by_cases ha : a = i
    · exact k2 (by rw [h2, ha])
    · rw [stF_upd a (by omega), if_neg ha] at z; exact h11 z
  · rw [if_neg e]
    have hs : ∀ f, f < n → stF (upd sa (12 + 6 * i + 2) (nI (lf - w))) f = stF sa f := by
      intro f hf
      rw [stF_upd f (by omega)]
      by_cases z : f = i
      · rw [if_pos z, z, stF_nI hlf (by omega), decide_eq_true (show 0 < lf - w by omega), decide_eq_true (show 0 < lf by omega)]
      · rw [if_neg z]
    split
    · exact h.st hs
    · exact (h.sub (stopF_sub _ _)).st hs
theorem PF.life {n : Nat} {sa : Nat → Int32} {i v : Nat} (h : PF n sa) (hi : i < n) (hv : ∀ fi : Nat, fi ≤ 200 → sa (12 + 6 * i + 1) = nI fi → v ≤ fi) : PF n (upd sa (12 + 6 * i + 2) (nI v)) := by
  intro f hf
  obtain ⟨sp, lf, fi, h1, h2, h3, h4, h5, h6, h7, h8⟩ := h f hf
  by_cases e : f = i
  · subst e
    exact ⟨sp, v, fi, h1, h2, hv fi h5 h8, h4, h5, by rw [pk_un (by omega)]; exact h6, pk_us, by rw [pk_un (by omega)]; exact h8⟩
  · exact ⟨sp, lf, fi, h1, h2, h3, h4, h5, by rw [pk_un (by omega)]; exact h6, by rw [pk_un (by omega)]; exact h7, by rw [pk_un (by omega)]; exact h8⟩
/-- the same game but for the fighters' readiness and their places' states -/
theorem GX.cong {n : Nat} {sa sa' : Nat → Int32} {es : List Row} {fl : List Nat} {sk : List Row} {ft ft' er li li' st : Tab} (h : GX n sa es fl sk ft er li st) (hF : FC ft' sa' n) (hL : LC li' sa' fl) (hc : ∀ f, f < n → sa' (12 + 6 * f) = sa (12 + 6 * f) ∧ sa' (12 + 6 * f + 1) = sa (12 + 6 * f + 1) ∧ sa' (12 + 6 * f + 2) = sa (12 + 6 * f + 2)) (hs : ∀ f, f ∈ fl → sa' (12 + 6 * f + 4) = 0 ∨ sa' (12 + 6 * f + 4) = 1) : GX n sa' es fl sk ft' er li' st := by
  obtain ⟨-, hE, -, hS, hPF, hPE, hPL, hSk⟩ := h
  refine ⟨hF, hE, hL, hS, fun f hf => ?_, hPE.st (fun f hf => stF_cong (hc f hf).2.2), ⟨hPL.1, hPL.2.1, hs⟩, hSk⟩
  obtain ⟨a, b, c⟩ := hc f hf
  rw [a, b, c]
  exact hPF f hf
/-- what an act or a turn keeps: the states of the list -/
abbrev stEq (sa sa' : Nat → Int32) : Prop := ∀ f, sa' (12 + 6 * f + 4) = sa (12 + 6 * f + 4)
theorem PW.st {sa sa' : Nat → Int32} {fl : List Nat} {tu : Int32} (h : PW sa fl tu) (hs : stEq sa sa') : PW sa' fl tu := by
  rcases h with h | ⟨f, f1, f2, f3⟩
  · exact Or.inl h
  · exact Or.inr ⟨f, f1, f2, (hs f).trans f3⟩
theorem GX.harm {n : Nat} {sa : Nat → Int32} {es : List Row} {fl : List Nat} {sk : List Row} {ft er li st : Tab} {fu i w : Nat} (sh : Int32) (h : GX n sa es fl sk ft er li st) (hi : i < n) (hw : w ≤ 1000) (hfu : 2000 < fu) :
    ∃ sa' es' ft' er', fX1_harm fu ft er sh (nI i) (nI w) = some (ft', er') ∧ GX n sa' es' fl sk ft' er' li st ∧ stEq sa sa' := by
  have hn := h.n10
  obtain ⟨hF, hE, hL, hS, hPF, hPE, hPL, hSk⟩ := h
  obtain ⟨sp, lf, fi, h1, h2, h3, h4, h5, h6, h7, h8⟩ := hPF i hi
  obtain ⟨ft', er', c1, c2, c3⟩ := c_harm (fu := fu) (sh := sh) hF hE hi h7 (by omega) hw (by omega)
  refine ⟨_, _, ft', er', c1, ⟨c2, c3, hL.cong (fun f hf => pk_un (by omega)), hS, hPF.life hi (fun fi' a b => ?_), hPE.hurt sh hn hi h7 (by omega), ⟨hPL.1, hPL.2.1, fun f hf => by rw [pk_un (by omega)]; exact hPL.2.2 f hf⟩, hSk⟩, fun f => pk_un (by omega)⟩
  have := (nI_inj (by omega) (by omega)).mp (h8.symm.trans b)
  omega
theorem GX.heal {n : Nat} {sa : Nat → Int32} {es : List Row} {fl : List Nat} {sk : List Row} {ft er li st : Tab} {i w : Nat} (h : GX n sa es fl sk ft er li st) (hi : i < n) (hw : w ≤ 1000) (hst : stF sa i = true) :
    ∃ sa' ft', fX1_heal ft (nI i) (nI w) = some ft' ∧ GX n sa' es fl sk ft' er li st ∧ stEq sa sa' := by
  have hn := h.n10
  obtain ⟨hF, hE, hL, hS, hPF, hPE, hPL, hSk⟩ := h
  obtain ⟨sp, lf, fi, h1, h2, h3, h4, h5, h6, h7, h8⟩ := hPF i hi
  obtain ⟨v, hv, hv2⟩ : ∃ v, v = (if lf + w ≤ fi then lf + w else fi) ∧ (if nI fi < nI lf + nI w then nI fi else nI lf + nI w) = nI v := by
    refine ⟨_, rfl, ?_⟩
    rw [nI_add]
    by_cases z : lf + w ≤ fi
    · rw [if_pos z, if_neg (nI_nlt z (by omega))]
    · rw [if_neg z, if_pos (nI_lt (by omega) (by omega))]
  have hvf : v ≤ fi := by rw [hv]; split <;> omega
  have hv0 : 0 < v := by
    have : 0 < lf := by
      rw [stF_nI h7 (by omega)] at hst
      exact of_decide_eq_true hst
    rw [hv]; split <;> omega
  have c2 : fX4_at ft (nI i) 2 = some (nI lf) := by rw [← h7]; exact hF.at hi (by decide)
  have c1 : fX4_at ft (nI i) 1 = some (nI fi) := by rw [← h8]; exact hF.at hi (by decide)
  obtain ⟨ft1, f1, f2⟩ := hF.put (v := nI v) hi (show 2 < 4 by decide)
  have f1 : fX4_put ft (nI i) 2 (nI v) = some ft1 := f1
  refine ⟨upd sa (12 + 6 * i + 2) (nI v), ft1, ?_, ⟨f2, hE, hL.cong (fun f hf => pk_un (by omega)), hS, hPF.life hi (fun fi' a b => ?_), hPE.st (fun f hf => ?_), ⟨hPL.1, hPL.2.1, fun f hf => by rw [pk_un (by omega)]; exact hPL.2.2 f hf⟩, hSk⟩, fun f => pk_un (by omega)⟩
  · rw [fX1_heal, c2, c1]
    simp only [Option.bind_some, hv2, f1]
  · have := (nI_inj (by omega) (by omega)).mp (h8.symm.trans b)
    omega
  · rw [stF_upd f (by omega)]
    by_cases z : f = i
    · rw [if_pos z, z, hst, decide_eq_true hv0]
    · rw [if_neg z]
/-- a turn ends -/
theorem GX.endT {n : Nat} {sa : Nat → Int32} {es : List Row} {fl : List Nat} {sk : List Row} {ft er li st : Tab} {fu : Nat} (tu : Int32) (h : GX n sa es fl sk ft er li st) (hfu : 2000 < fu) :
    ∃ er', fX1_endTurn fu er tu = some (nI es.length - nI (es.filterMap (cdF tu)).length, er', -1) ∧ GX n sa (es.filterMap (cdF tu)) fl sk ft er' li st := by
  obtain ⟨hF, hE, hL, hS, hPF, hPE, hPL, hSk⟩ := h
  obtain ⟨er', c1, c2⟩ := c_cd (fu := fu) tu hE (by omega)
  refine ⟨er', ?_, ⟨hF, c2, hL, hS, hPF, hPE.cd tu, hPL, hSk⟩⟩
  rw [fX1_endTurn, c1]
  rfl
/-- poison at the beginning of a turn -/
theorem GX.poisonL {n : Nat} {fl : List Nat} {sk : List Row} {li st : Tab} {fu i : Nat} (sh : Int32) (hi : i < n) (hfu : 2000 < fu) : ∀ (d v3 k : Nat) (sa : Nat → Int32) (es : List Row) (ft er : Tab) (b : Int32), v3 + d = 30 → d < k → GX n sa es fl sk ft er li st → ∃ sa' es' ft' er', fX1_sufferPoison_L4 fu sh (nI i) k ft er b (nI v3) = some (ft', er') ∧ GX n sa' es' fl sk ft' er' li st ∧ stEq sa sa'
  | 0, v3, k + 1, sa, es, ft, er, b, hd, hk, h => by
    refine ⟨sa, es, ft, er, ?_, h, fun _ => rfl⟩
    rw [fX1_sufferPoison_L4, if_pos (show (30 : Int32) ≤ nI v3 from nI_le (a := 30) (by omega) (by omega))]
  | d + 1, v3, k + 1, sa, es, ft, er, b, hd, hk, h => by
    obtain ⟨x, x1, x2⟩ := c_pba (fu := fu) (nI i) b h.2.1 (by omega)
    rw [fX1_sufferPoison_L4, if_neg (show ¬ (30 : Int32) ≤ nI v3 from nI_ge (b := 30) (by omega) (by omega)), x1]
    simp only [Option.bind_some]
    rcases x2 with ⟨-, rfl⟩ | ⟨j, r, -, j2, rfl⟩
    · rw [if_pos rfl]
      exact ⟨sa, es, ft, er, rfl, h, fun _ => rfl⟩
    · have hj := tl_lt j2
      have hle := h.2.1.le
      have a7 : fX4_at er (nI j) 7 = some (gD r 7) := h.2.1.at j2 (by decide)
      have a1 : fX4_at er (nI j) 1 = some (gD r 1) := h.2.1.at j2 (by decide)
      obtain ⟨-, a, t, p, q, -, -, -, -, p5, p6, -⟩ := h.2.2.2.2.2.1.1 r (List.mem_of_getElem? j2)
      obtain ⟨sa1, es1, ft1, er1, g1, g2, g3⟩ := h.harm (fu := fu) (w := p) sh hi (by omega) hfu
      obtain ⟨sa2, es2, ft2, er2, i1, i2, i3⟩ := GX.poisonL sh hi hfu d (v3 + 1) k sa1 es1 ft1 er1 (gD r 7) (by omega) (by omega) g2
      refine ⟨sa2, es2, ft2, er2, ?_, i2, fun f => (i3 f).trans (g3 f)⟩
      rw [if_neg (nI_m1 (by omega)), fX0_birthOf, fX0_about, a7, a1]
      simp only [Option.bind_some, p6, g1, nS, i1]
theorem GX.poison {n : Nat} {sa : Nat → Int32} {es : List Row} {fl : List Nat} {sk : List Row} {ft er li st : Tab} {fu i : Nat} (sh : Int32) (h : GX n sa es fl sk ft er li st) (hi : i < n) (hfu : 2000 < fu) :
    ∃ sa' es' ft' er', fX1_sufferPoison fu ft er sh (nI i) = some (ft', er') ∧ GX n sa' es' fl sk ft' er' li st ∧ stEq sa sa' :=
  GX.poisonL sh hi hfu 30 0 fu sa es ft er (-1) rfl (by omega) h
