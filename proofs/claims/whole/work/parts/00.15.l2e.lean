/-! poison at the beginning of a turn -/
def poisF (f b : Int32) : List Row → Option Row
  | [] => none
  | r :: t => if ¬ gD r 7 ≤ b ∧ gD r 3 = f ∧ gD r 0 = 0 then some r else poisF f b t
def bOk (es : List Row) : Prop := es.Pairwise (fun a b => gD a 7 < gD b 7)
def pwOk (es : List Row) : Prop := ∀ r ∈ es, ∃ p : Nat, p ≤ 20 ∧ gD r 1 = nI p
theorem le_lt32 {a b c : Int32} (h : a ≤ b) (g : b < c) : ¬ c ≤ a := by
  rw [Int32.le_iff_toInt_le] at h ⊢
  rw [Int32.lt_iff_toInt_lt] at g
  omega
theorem nle_tr {a b c : Int32} (h : ¬ a ≤ b) (g : a < c) : ¬ c ≤ b := by
  rw [Int32.le_iff_toInt_le] at h ⊢
  rw [Int32.lt_iff_toInt_lt] at g
  omega
theorem nle_lt {a b : Int32} (g : a < b) : ¬ b ≤ a := by
  rw [Int32.le_iff_toInt_le]
  rw [Int32.lt_iff_toInt_lt] at g
  omega
theorem poisF_mem {f b : Int32} : ∀ {t : List Row} {r : Row}, poisF f b t = some r → r ∈ t ∧ ¬ gD r 7 ≤ b ∧ gD r 3 = f ∧ gD r 0 = 0
  | x :: t, r, h => by
    rw [poisF] at h
    split at h
    · rename_i hc
      cases h
      exact ⟨List.mem_cons_self, hc⟩
    · obtain ⟨h1, h2⟩ := poisF_mem h
      exact ⟨List.mem_cons_of_mem _ h1, h2⟩
theorem poisF_none {f b : Int32} : ∀ {t : List Row}, (∀ r ∈ t, ¬ (¬ gD r 7 ≤ b ∧ gD r 3 = f ∧ gD r 0 = 0)) → poisF f b t = none
  | [], _ => rfl
  | r :: t, h => by
    rw [poisF, if_neg (h r List.mem_cons_self)]
    exact poisF_none (fun x hx => h x (List.mem_cons_of_mem _ hx))
theorem c_pbaL {fu : Nat} {er : Tab} {es : List Row} {f b : Int32} (h : EC er es) : ∀ (t : List Row) (k i : Nat), es.drop i = t → i ≤ es.length → t.length < k → ∃ x, fX0_poisonBornAfter_L2 fu er f b k (nI i) = some x ∧ ((poisF f b t = none ∧ x = -1) ∨ ∃ j r, poisF f b t = some r ∧ es[j]? = some r ∧ x = nI j)
  | [], k + 1, i, hd, hi, hk => by
    refine ⟨-1, ?_, Or.inl ⟨rfl, rfl⟩⟩
    rw [fX0_poisonBornAfter_L2]
    simp only [h.cnt, Option.bind_some, if_pos (nle (dr_nil hd) (by have := h.le; omega))]
  | r :: t, k + 1, i, hd, hi, hk => by
    obtain ⟨h1, h2, h3⟩ := dr_cons hd
    have a7 : fX4_at er (nI i) 7 = some (gD r 7) := h.at h1 (by decide)
    have a3 : fX4_at er (nI i) 3 = some (gD r 3) := h.at h1 (by decide)
    have a0 : fX4_at er (nI i) 0 = some (gD r 0) := h.at h1 (by decide)
    obtain ⟨x, i1, i2⟩ := c_pbaL (fu := fu) (f := f) (b := b) h t k (i + 1) h2 h3 (by simpa using hk)
    rw [fX0_poisonBornAfter_L2]
    simp only [h.cnt, Option.bind_some, if_neg (nge h3 (by have := h.le; omega)), a7, a3, a0, nS, i1, poisF]
    by_cases e7 : gD r 7 ≤ b
    · refine ⟨x, by rw [if_pos e7], ?_⟩
      rw [if_neg (fun q => q.1 e7)]; exact i2
    · by_cases e3 : gD r 3 = f
      · by_cases e0 : gD r 0 = 0
        · refine ⟨nI i, by rw [if_neg e7, if_pos e3, if_pos e0], Or.inr ⟨i, r, by rw [if_pos ⟨e7, e3, e0⟩], h1, rfl⟩⟩
        · refine ⟨x, by rw [if_neg e7, if_pos e3, if_neg e0], ?_⟩
          rw [if_neg (fun q => e0 q.2.2)]; exact i2
      · refine ⟨x, by rw [if_neg e7, if_neg e3], ?_⟩
        rw [if_neg (fun q => e3 q.2.1)]; exact i2
theorem c_pba {fu : Nat} {er : Tab} {es : List Row} (f b : Int32) (h : EC er es) (hf : 30 < fu) : ∃ x, fX0_poisonBornAfter fu er f b = some x ∧ ((poisF f b es = none ∧ x = -1) ∨ ∃ j r, poisF f b es = some r ∧ es[j]? = some r ∧ x = nI j) := c_pbaL h es fu 0 rfl (Nat.zero_le _) (by have := h.le; omega)
theorem m_poiL {fu : Nat} {f b : Int32} {sa : Nat → Int32} {es : List Row} (h : EM sa es) (hst : fX6_stands sa f = some true) : ∀ (t : List Row) (k i : Nat) (v2 : Int32), es.drop i = t → i ≤ es.length → t.length < k → t.Pairwise (fun a b => gD a 7 < gD b 7) → (∀ r ∈ t, (gD r 7 ≤ v2 ↔ gD r 7 ≤ b)) →
    (poisF f b t = none → fX6_sufferPoison_L4 fu f k sa v2 (nI i) = some sa) ∧ (∀ r, poisF f b t = some r → ∃ k', k ≤ k' + t.length ∧ fX6_sufferPoison_L4 fu f k sa v2 (nI i) = (fX6_harm fu sa f (gD r 1) true).bind fun x => fX6_sufferPoison_L4 fu f k' x (gD r 7) 0)
  | [], k + 1, i, v2, hd, hi, hk, hp, hc => by
    refine ⟨fun _ => ?_, fun r hr => by cases hr⟩
    rw [fX6_sufferPoison_L4]
    simp only [q1, g1, if_true, h.1, if_pos (nle (dr_nil hd) (by have := h.2.1; omega))]
  | r :: t, k + 1, i, v2, hd, hi, hk, hp, hc => by
    obtain ⟨h1, h2, h3⟩ := dr_cons hd
    obtain ⟨p1, p2⟩ := List.pairwise_cons.mp hp
    have a7 : fX6_ofEffect sa (nI i) 7 = some (gD r 7) := h.at h1 (by decide)
    have a3 : fX6_ofEffect sa (nI i) 3 = some (gD r 3) := h.at h1 (by decide)
    have a0 : fX6_ofEffect sa (nI i) 0 = some (gD r 0) := h.at h1 (by decide)
    have a1 : fX6_ofEffect sa (nI i) 1 = some (gD r 1) := h.at h1 (by decide)
    have hcr := hc r List.mem_cons_self
    rw [fX6_sufferPoison_L4]
    simp only [q1, g1, if_true, h.1, if_neg (nge h3 (by have := h.2.1; omega)), hst, if_neg bI_t, a7, a3, a0, a1, Option.bind_some, nS, poisF]
    by_cases e7 : gD r 7 ≤ v2
    · have e7' := hcr.mp e7
      have ih := m_poiL (fu := fu) (f := f) (b := b) h hst t k (i + 1) v2 h2 h3 (by simpa using hk) p2 (fun x hx => hc x (List.mem_cons_of_mem _ hx))
      rw [if_neg (fun q => q.1 e7')]
      simp only [if_pos e7]
      refine ⟨ih.1, fun r' hr' => ?_⟩
      obtain ⟨k', b1, b2⟩ := ih.2 r' hr'
      exact ⟨k', by simp; omega, b2⟩
    · have e7' : ¬ gD r 7 ≤ b := fun q => e7 (hcr.mpr q)
      have ih := m_poiL (fu := fu) (f := f) (b := b) h hst t k (i + 1) (gD r 7) h2 h3 (by simpa using hk) p2 (fun x hx => ⟨fun q => absurd q (nle_lt (p1 x hx)), fun q => absurd q (nle_tr e7' (p1 x hx))⟩)
      simp only [if_neg e7]
      by_cases e0 : gD r 0 = 0
      · by_cases e3 : gD r 3 = f
        · simp only [if_pos e0, if_pos e3]
          rw [if_pos ⟨e7', e3, e0⟩]
          refine ⟨fun q => (by cases q), fun r' hr' => ?_⟩
          cases hr'
          exact ⟨k, by simp, rfl⟩
        · simp only [if_pos e0, if_neg e3]
          rw [if_neg (fun q => e3 q.2.1)]
          refine ⟨ih.1, fun r' hr' => ?_⟩
          obtain ⟨k', b1, b2⟩ := ih.2 r' hr'
          exact ⟨k', by simp; omega, b2⟩
      · simp only [if_neg e0]
        rw [if_neg (fun q => e0 q.2.2)]
        refine ⟨ih.1, fun r' hr' => ?_⟩
        obtain ⟨k', b1, b2⟩ := ih.2 r' hr'
        exact ⟨k', by simp; omega, b2⟩
def cntB (b : Int32) (es : List Row) : Nat := (es.filter (fun r => decide (¬ gD r 7 ≤ b))).length
theorem i32_ntr {a b c : Int32} (h : b ≤ c) (e : ¬ a ≤ c) : ¬ a ≤ b := fun q => e (by rw [Int32.le_iff_toInt_le] at h q ⊢; omega)
theorem cntB_le {b c : Int32} (h : b ≤ c) (es : List Row) : cntB c es ≤ cntB b es := by
  induction es with
  | nil => simp [cntB]
  | cons r t ih =>
    unfold cntB at ih ⊢
    rw [List.filter_cons, List.filter_cons]
    by_cases e : gD r 7 ≤ c
    · by_cases e2 : gD r 7 ≤ b
      · simpa [e, e2] using ih
      · simp [e, e2]; exact Nat.le_succ_of_le (by simpa using ih)
    · have e2 : ¬ gD r 7 ≤ b := i32_ntr h e
      simpa [e, e2] using ih
theorem cntB_lt {b : Int32} {r : Row} (hr : ¬ gD r 7 ≤ b) : ∀ {es : List Row}, r ∈ es → cntB (gD r 7) es < cntB b es
  | x :: t, h => by
    have hbr : b ≤ gD r 7 := by rw [Int32.le_iff_toInt_le] at hr ⊢; omega
    rcases List.mem_cons.mp h with e | h
    · subst e
      have ih := cntB_le hbr t
      unfold cntB at ih ⊢
      rw [List.filter_cons, List.filter_cons]
      have e1 : gD r 7 ≤ gD r 7 := by rw [Int32.le_iff_toInt_le]; exact Int.le_refl _
      simp only [e1, hr, not_true_eq_false, decide_false, Bool.false_eq_true, if_false, not_false_eq_true, decide_true, if_true, List.length_cons]
      exact Nat.lt_succ_of_le ih
    · have ih := cntB_lt hr h
      unfold cntB at ih ⊢
      rw [List.filter_cons, List.filter_cons]
      by_cases e : gD x 7 ≤ gD r 7
      · by_cases e2 : gD x 7 ≤ b
        · simpa [e, e2] using ih
        · simp [e, e2]; exact Nat.lt_succ_of_lt (by simpa using ih)
      · have e2 : ¬ gD x 7 ≤ b := by
          rw [Int32.le_iff_toInt_le] at hbr e ⊢; omega
        simpa [e, e2] using ih
theorem cntB_sub {b : Int32} {es es' : List Row} (h : es'.Sublist es) : cntB b es' ≤ cntB b es := (h.filter _).length_le
theorem stopF_sub (f : Int32) (es : List Row) : (stopF f es).Sublist es := by
  rcases heldF_cases f es 0 with ⟨-, h⟩ | ⟨j, -, -, h⟩
  · rw [h]; exact List.Sublist.refl _
  · rw [h]; exact List.eraseIdx_sublist _ _
theorem hurtE_sub (sh : Int32) (es : List Row) (i lf w : Nat) : (hurtE sh es i lf w).Sublist es := by
  unfold hurtE
  split
  · exact List.filter_sublist
  · split
    · exact List.Sublist.refl _
    · exact stopF_sub _ _
theorem poisF_fallen {f b : Int32} {es : List Row} : poisF f b (es.filter (keepF f)) = none := by
  apply poisF_none
  intro r hr hc
  have hk := (List.mem_filter.mp hr).2
  simp only [keepF, hc.2.1, decide_true, Bool.true_or, Bool.not_true] at hk
  cases hk
theorem c_poi_end {fu : Nat} {sh f b : Int32} {ft er : Tab} {es : List Row} {k v3 : Nat} (hE : EC er es) (hn : poisF f b es = none) (hf : 30 < fu) (hk : 0 < k) (hv : v3 ≤ 30) : fX1_sufferPoison_L4 fu sh f k ft er b (nI v3) = some (ft, er) := by
  obtain ⟨k, rfl⟩ : ∃ k', k = k' + 1 := ⟨k - 1, by omega⟩
  rw [fX1_sufferPoison_L4]
  by_cases q : v3 = 30
  · rw [if_pos (show (30 : Int32) ≤ nI v3 from nI_le (a := 30) (by omega) (by omega))]
  · rw [if_neg (show ¬ (30 : Int32) ≤ nI v3 from nI_ge (b := 30) (by omega) (by omega))]
    obtain ⟨x, h1, h2⟩ := c_pba f b hE hf
    rcases h2 with ⟨-, e⟩ | ⟨j, r, e, -⟩
    · simp only [h1, Option.bind_some, if_pos e]
    · rw [hn] at e; cases e
/-- what poison leaves alone -/
def poiKeep (sa sa' : Nat → Int32) (i : Nat) : Prop := ∀ q, q ≠ 1 → q ≠ 10 → (q < 82 ∨ 322 ≤ q) → q ≠ 12 + 6 * i + 2 → sa' q = sa q
theorem hurt_poi {sa sa' : Nat → Int32} {i : Nat} {v : Int32} (h : hurtKeep sa sa' i v) : poiKeep sa sa' i := fun q h1 h2 h3 h4 => (h q h1 h2 h3).trans (pk_un h4)
theorem hurt_life {sa sa' : Nat → Int32} {i : Nat} {v : Int32} (hi : i < 10) (h : hurtKeep sa sa' i v) : sa' (12 + 6 * i + 2) = v := (h (12 + 6 * i + 2) (by omega) (by omega) (by omega)).trans pk_us
theorem hurt_FC {ft : Tab} {sa sa' : Nat → Int32} {i n : Nat} {v : Int32} (h : hurtKeep sa sa' i v) (hF : FC ft (upd sa (12 + 6 * i + 2) v) n) : FC ft sa' n := hF.cong (fun i' hi' j hj => h _ (by omega) (by omega) (by have := hF.2; omega))
theorem poison {fu n i : Nat} (hfu : 2000 < fu) (hi : i < n) (hn : n ≤ 10) : ∀ (N : Nat) (sa : Nat → Int32) (ft er : Tab) (es : List Row) (b : Int32) (lf : Nat), cntB b es ≤ N → FC ft sa n → EC er es → EM sa es → bOk es → pwOk es → sa (12 + 6 * i + 2) = nI lf → 0 < lf → lf ≤ 200 →
    ∃ (sa' : Nat → Int32) (ft' er' : Tab) (es' : List Row) (lf' : Nat), (∀ k v3, N + 1 < k → v3 + N ≤ 30 → fX1_sufferPoison_L4 fu (sa 2) (nI i) k ft er b (nI v3) = some (ft', er')) ∧ (∀ k, 32 * (N + 1) ≤ k → fX6_sufferPoison_L4 fu (nI i) k sa b 0 = some sa') ∧ FC ft' sa' n ∧ EC er' es' ∧ EM sa' es' ∧ es'.Sublist es ∧ endSum sa' es'.length = endSum sa es.length ∧ lf' ≤ lf ∧ sa' (12 + 6 * i + 2) = nI lf' ∧ poiKeep sa sa' i ∧ (lf' = 0 → ∀ r ∈ es', ¬ gD r 3 = nI i) := by
  intro N
  induction N with
  | zero =>
    intro sa ft er es b lf hN hF hC hM hb hp hlf h0 hl
    have hst : fX6_stands sa (nI i) = some true := by
      rw [m_stands sa (by omega), hlf]
      congr 1
      exact decide_eq_true (fun q => by have := (nle0 (by omega)).mp q; omega)
    have hno : poisF (nI i) b es = none := by
      cases hx : poisF (nI i) b es with
      | none => rfl
      | some r =>
        obtain ⟨m1, m2, -, -⟩ := poisF_mem hx
        have := cntB_lt m2 m1
        omega
    refine ⟨sa, ft, er, es, lf, fun k v3 hk hv => c_poi_end hC hno (by omega) (by omega) (by omega), fun k hk => ?_, hF, hC, hM, List.Sublist.refl _, rfl, Nat.le_refl _, hlf, fun q _ _ _ _ => rfl, fun z => absurd z (by omega)⟩
    exact (m_poiL hM hst es k 0 b rfl (Nat.zero_le _) (by have := hM.2.1; omega) hb (fun r _ => Iff.rfl)).1 hno
  | succ N ih =>
    intro sa ft er es b lf hN hF hC hM hb hp hlf h0 hl
    have hst : fX6_stands sa (nI i) = some true := by
      rw [m_stands sa (by omega), hlf]
      congr 1
      exact decide_eq_true (fun q => by have := (nle0 (by omega)).mp q; omega)
    have hsc := fun k (hk : 32 ≤ k) => m_poiL (fu := fu) (f := nI i) (b := b) hM hst es k 0 b rfl (Nat.zero_le _) (by have := hM.2.1; omega) hb (fun r _ => Iff.rfl)
    cases hx : poisF (nI i) b es with
    | none =>
      exact ⟨sa, ft, er, es, lf, fun k v3 hk hv => c_poi_end hC hx (by omega) (by omega) (by omega), fun k hk => (hsc k (by omega)).1 hx, hF, hC, hM, List.Sublist.refl _, rfl, Nat.le_refl _, hlf, fun q _ _ _ _ => rfl, fun z => absurd z (by omega)⟩
    | some r =>
      obtain ⟨m1, m2, m3, m4⟩ := poisF_mem hx
      obtain ⟨w, w1, w2⟩ := hp r m1
      obtain ⟨ft1, er1, c1, c2, c3⟩ := c_harm (fu := fu) (sh := sa 2) (w := w) hF hC hi hlf hl (by omega) (by omega)
      obtain ⟨sa1, d1, d2, d3, d4⟩ := m_harmJ (fu := fu) (w := w) hM hi hn hlf h0 hl (by omega) (by omega)
      have hF1 : FC ft1 sa1 n := hurt_FC d4 c2
      have hs1 : sa1 2 = sa 2 := hurt_poi d4 2 (by decide) (by decide) (by omega) (by omega)
      have hsub := hurtE_sub (sa 2) es i lf w
      have hstep : ∀ k v3, 0 < k → v3 + (N + 1) ≤ 30 → fX1_sufferPoison_L4 fu (sa 2) (nI i) k ft er b (nI v3) = fX1_sufferPoison_L4 fu (sa 2) (nI i) (k - 1) ft1 er1 (gD r 7) (nI (v3 + 1)) := by
        intro k v3 hk hv
        obtain ⟨k, rfl⟩ : ∃ k', k = k' + 1 := ⟨k - 1, by omega⟩
        rw [fX1_sufferPoison_L4, if_neg (show ¬ (30 : Int32) ≤ nI v3 from nI_ge (b := 30) (by omega) (by omega))]
        obtain ⟨x, h1, h2⟩ := c_pba (nI i) b hC (show 30 < fu by omega)
        rcases h2 with ⟨e, -⟩ | ⟨j, r', e, e2, e3⟩
        · rw [hx] at e; cases e
        · rw [hx] at e
          cases e
          have hj := tl_lt e2
          have b7 : fX0_birthOf er (nI j) = some (gD r 7) := by rw [fX0_birthOf, show fX4_at er (nI j) (7 : Int32) = _ from hC.at e2 (by decide : 7 < 8)]; rfl
          have b1 : fX0_about er (nI j) 1 = some (gD r 1) := by rw [fX0_about, show fX4_at er (nI j) (1 : Int32) = _ from hC.at e2 (by decide : 1 < 8)]; rfl
          have hne : ¬ nI j = -1 := fun q => by
            have := congrArg Int32.toInt q
            rw [nI_toInt (by have := hC.le; omega)] at this
            exact absurd this (by rw [show (-1 : Int32).toInt = -1 from rfl]; omega)
          rw [h1, e3]
          simp only [Option.bind_some, if_neg hne, b7, b1, w2, c1, nS, Nat.add_sub_cancel]
      have hm : ∀ k, 32 ≤ k → ∃ k', k ≤ k' + 30 ∧ fX6_sufferPoison_L4 fu (nI i) k sa b 0 = fX6_sufferPoison_L4 fu (nI i) k' sa1 (gD r 7) 0 := by
        intro k hk
        obtain ⟨k', b1, b2⟩ := (hsc k hk).2 r hx
        refine ⟨k', by have := hM.2.1; omega, ?_⟩
        rw [show (0 : Int32) = nI 0 from rfl] at b2 ⊢
        rw [b2, fX6_harm, if_neg bI_t, w2, d1]
        rfl
      by_cases hd : lf ≤ w
      · -- the fighter falls
        have hE1 : hurtE (sa 2) es i lf w = es.filter (keepF (nI i)) := by unfold hurtE; rw [if_pos hd]
        refine ⟨sa1, ft1, er1, hurtE (sa 2) es i lf w, lf - w, fun k v3 hk hv => ?_, fun k hk => ?_, hF1, c3, d2, hsub, d3, Nat.sub_le _ _, hurt_life (by omega) d4, hurt_poi d4, fun _ x hx => ?_⟩
        · rw [hstep k v3 (by omega) hv]
          exact c_poi_end c3 (by rw [hE1]; exact poisF_fallen) (by omega) (by omega) (by omega)
        · obtain ⟨k', b1, b2⟩ := hm k (by omega)
          rw [b2]
          obtain ⟨k2, rfl⟩ : ∃ k2, k' = k2 + 1 := ⟨k' - 1, by omega⟩
          have hst1 : fX6_stands sa1 (nI i) = some false := by
            rw [m_stands sa1 (by omega), hurt_life (by omega) d4]
            congr 1
            exact decide_eq_false (fun q => q ((nle0 (by omega)).mpr (by omega)))
          rw [fX6_sufferPoison_L4]
          simp only [q1, g1, if_true, hst1, Option.bind_some, if_pos bI_ff]
          split <;> rfl
        · rw [hE1] at hx
          intro e
          have hk := (List.mem_filter.mp hx).2
          simp only [keepF, e, decide_true, Bool.true_or, Bool.not_true] at hk
          cases hk
      · have hcn : cntB (gD r 7) (hurtE (sa 2) es i lf w) ≤ N := by
          have a1 := cntB_sub (b := gD r 7) hsub
          have a2 := cntB_lt m2 m1
          omega
        obtain ⟨sa', ft', er', es', lf', r1, r2, r3, r4, r5, r6, r7, r8, r9, r10, r11⟩ := ih sa1 ft1 er1 _ (gD r 7) (lf - w) hcn hF1 c3 d2 (hb.sublist hsub) (fun x hx => hp x (hsub.subset hx)) (hurt_life (by omega) d4) (by omega) (by omega)
        rw [hs1] at r1
        refine ⟨sa', ft', er', es', lf', fun k v3 hk hv => ?_, fun k hk => ?_, r3, r4, r5, r6.trans hsub, r7.trans d3, by omega, r9, fun q x1 x2 x3 x4 => (r10 q x1 x2 x3 x4).trans (hurt_poi d4 q x1 x2 x3 x4), r11⟩
        · rw [hstep k v3 (by omega) hv]
          exact r1 (k - 1) (v3 + 1) (by omega) (by omega)
        · obtain ⟨k', b1, b2⟩ := hm k (by omega)
          rw [b2]
          exact r2 k' (by omega)
