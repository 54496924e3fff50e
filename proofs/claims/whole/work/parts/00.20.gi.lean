/-! the relation of the class's game and the reference's cells -/
/-- an act on the stack -/
def sOk (n : Nat) (r : Row) : Prop := (∃ a, a < n ∧ gD r 1 = nI a) ∧ (∃ t, t < n ∧ gD r 2 = nI t) ∧ (∃ w, 1 ≤ w ∧ w ≤ 60 ∧ gD r 3 = nI w ∧ (gD r 0 = 2 → w ≤ 20)) ∧ (gD r 0 = 2 → ∃ q, 1 ≤ q ∧ q ≤ 20 ∧ gD r 5 = nI q)
def KN (n : Nat) (sa : Nat → Int32) : Prop := sa 0 = nI n ∧ n ≤ 10
def KE (es : List Row) (B : Nat) (sa : Nat → Int32) : Prop := EM sa es ∧ (bOk es ∧ pwOk es ∧ leftOk es) ∧ endSum sa es.length = sa 11 ∧ ∃ N, N ≤ B ∧ sa 11 = nI N ∧ ∀ r ∈ es, ∃ b, b < N ∧ gD r 7 = nI b
def KL (n : Nat) (fl : List Nat) (sa : Nat → Int32) : Prop := LM sa fl ∧ LN fl n ∧ fl.Nodup ∧ ∀ f, f < n → f ∉ fl → sa (12 + 6 * f + 4) = -1
def KD (n : Nat) (sa : Nat → Int32) : Prop := ∀ f, f < n → (sa (12 + 6 * f + 4) = 0 → sa (12 + 6 * f + 5) = 0) ∧ (sa (12 + 6 * f + 4) = 2 → sa (12 + 6 * f + 5) = 1)
def KS (n : Nat) (sk : List Row) (sa : Nat → Int32) : Prop := (sa 8 = nI sk.length ∧ sk.length ≤ 8 ∧ ∀ (i : Nat) (r : Row), sk[i]? = some r → r.length = 7 ∧ ∀ j, j < 7 → sa (322 + 7 * i + j) = gD r j) ∧ ∀ r ∈ sk, sOk n r
def KR (fl : List Nat) (B : Nat) (sa : Nat → Int32) : Prop := ∃ R, R ≤ B ∧ sa 3 = nI R ∧ (R = 0 → fl = [])
def KF (n : Nat) (sa : Nat → Int32) : Prop := ∀ f, f < n → ∃ lf fi, lf ≤ fi ∧ 1 ≤ fi ∧ fi ≤ 200 ∧ sa (12 + 6 * f + 2) = nI lf ∧ sa (12 + 6 * f + 1) = nI fi
def KT (n : Nat) (fl : List Nat) (sk : List Row) (sa : Nat → Int32) : Prop := ((sa 4 = -1 ∧ sk = []) ∨ ∃ f, f ∈ fl ∧ sa 4 = nI f) ∧ (sk ≠ [] → sa 5 = 1) ∧ (sa 7 = -1 ∨ ∃ f, f < n ∧ sa 7 = nI f)
def KV (n : Nat) (dl : Bool) (sa : Nat → Int32) : Prop := ∀ f, f < n → sa 4 = nI f → dl = decide (sa 5 = 0 ∧ sa (12 + 6 * f + 5) = 0)
def GI (n : Nat) (es : List Row) (fl : List Nat) (sk : List Row) (ft er : Tab) (eb : Int32) (li st : Tab) (rd tu la : Int32) (dl : Bool) (sh tb : Int32) (sa : Nat → Int32) (B : Nat) : Prop :=
  (FC ft sa n ∧ EC er es ∧ LC li sa fl ∧ TL 7 8 st sk) ∧ (eb = sa 11 ∧ rd = sa 3 ∧ tu = sa 4 ∧ la = sa 7 ∧ sh = sa 2 ∧ tb = sa 9) ∧ KV n dl sa ∧ KN n sa ∧ KE es B sa ∧ KL n fl sa ∧ KD n sa ∧ KS n sk sa ∧ KR fl B sa ∧ KF n sa ∧ KT n fl sk sa
def GR (ft er : Tab) (eb : Int32) (li st : Tab) (rd tu la : Int32) (dl : Bool) (sh tb : Int32) (sa : Nat → Int32) (B : Nat) : Prop :=
  ∃ (n : Nat) (es : List Row) (fl : List Nat) (sk : List Row), GI n es fl sk ft er eb li st rd tu la dl sh tb sa B
theorem KN.cong {n : Nat} {sa sa' : Nat → Int32} (h : KN n sa) (h0 : sa' 0 = sa 0) : KN n sa' := ⟨h0.trans h.1, h.2⟩
theorem KE.cong {es : List Row} {B : Nat} {sa sa' : Nat → Int32} (h : KE es B sa) (h1 : sa' 1 = sa 1) (h10 : sa' 10 = sa 10) (h11 : sa' 11 = sa 11) (he : ∀ q, 82 ≤ q → q < 322 → sa' q = sa q) : KE es B sa' :=
  ⟨h.1.cong h1 he, h.2.1, by rw [h11, ← h.2.2.1]; unfold endSum; rw [h10], by rw [h11]; exact h.2.2.2⟩
theorem KE.mono {es : List Row} {B B' : Nat} {sa : Nat → Int32} (h : KE es B sa) (hB : B ≤ B') : KE es B' sa :=
  ⟨h.1, h.2.1, h.2.2.1, by obtain ⟨N, h1, h2⟩ := h.2.2.2; exact ⟨N, Nat.le_trans h1 hB, h2⟩⟩
theorem KL.cong {n : Nat} {fl : List Nat} {sa sa' : Nat → Int32} (h : KL n fl sa) (h6 : sa' 6 = sa 6) (hl : ∀ q, 72 ≤ q → q < 82 → sa' q = sa q) (hs : ∀ f, f < n → sa' (12 + 6 * f + 4) = sa (12 + 6 * f + 4)) : KL n fl sa' :=
  ⟨⟨by rw [h6]; exact h.1.1, h.1.2.1, fun k f hk => by rw [hl _ (by omega) (by have := tl_lt hk; have := h.1.2.1; omega)]; exact h.1.2.2 k f hk⟩, h.2.1, h.2.2.1, fun f hf hn => by rw [hs f hf]; exact h.2.2.2 f hf hn⟩
theorem KD.cong {n : Nat} {sa sa' : Nat → Int32} (h : KD n sa) (hs : ∀ f, f < n → sa' (12 + 6 * f + 4) = sa (12 + 6 * f + 4) ∧ sa' (12 + 6 * f + 5) = sa (12 + 6 * f + 5)) : KD n sa' := fun f hf => by
  rw [(hs f hf).1, (hs f hf).2]; exact h f hf
theorem KS.cong {n : Nat} {sk : List Row} {sa sa' : Nat → Int32} (h : KS n sk sa) (h8 : sa' 8 = sa 8) (hs : ∀ q, 322 ≤ q → q < 378 → sa' q = sa q) : KS n sk sa' :=
  ⟨⟨by rw [h8]; exact h.1.1, h.1.2.1, fun i r hr => ⟨(h.1.2.2 i r hr).1, fun j hj => by rw [hs _ (by omega) (by have := tl_lt hr; have := h.1.2.1; omega)]; exact (h.1.2.2 i r hr).2 j hj⟩⟩, h.2⟩
theorem KR.cong {fl : List Nat} {B : Nat} {sa sa' : Nat → Int32} (h : KR fl B sa) (h3 : sa' 3 = sa 3) : KR fl B sa' := by
  obtain ⟨R, a, b, c⟩ := h; exact ⟨R, a, by rw [h3]; exact b, c⟩
theorem KR.mono {fl : List Nat} {B B' : Nat} {sa : Nat → Int32} (h : KR fl B sa) (hB : B ≤ B') : KR fl B' sa := by
  obtain ⟨R, a, b, c⟩ := h; exact ⟨R, Nat.le_trans a hB, b, c⟩
theorem KF.cong {n : Nat} {sa sa' : Nat → Int32} (h : KF n sa) (hs : ∀ f, f < n → sa' (12 + 6 * f + 1) = sa (12 + 6 * f + 1) ∧ sa' (12 + 6 * f + 2) = sa (12 + 6 * f + 2)) : KF n sa' := fun f hf => by
  rw [(hs f hf).1, (hs f hf).2]; exact h f hf
theorem KT.cong {n : Nat} {fl : List Nat} {sk : List Row} {sa sa' : Nat → Int32} (h : KT n fl sk sa) (h4 : sa' 4 = sa 4) (h5 : sa' 5 = sa 5) (h7 : sa' 7 = sa 7) : KT n fl sk sa' := by
  unfold KT; rw [h4, h5, h7]; exact h
theorem KV.cong {n : Nat} {dl : Bool} {sa sa' : Nat → Int32} (h : KV n dl sa) (h4 : sa' 4 = sa 4) (h5 : sa' 5 = sa 5) (hs : ∀ f, f < n → sa' (12 + 6 * f + 5) = sa (12 + 6 * f + 5)) : KV n dl sa' := fun f hf e => by
  rw [h5, hs f hf]; exact h f hf (h4.symm.trans e)
theorem LC.cong {li : Tab} {sa sa' : Nat → Int32} {fl : List Nat} (h : LC li sa fl) (hs : ∀ f, f ∈ fl → sa' (12 + 6 * f + 4) = sa (12 + 6 * f + 4)) : LC li sa' fl := by
  unfold LC
  rw [List.map_congr_left (g := fun f => [nI f, sa (12 + 6 * f + 4)]) (fun f hf => by rw [hs f hf])]
  exact h
/-- the same cells, the same relation -/
theorem GI.cong {n : Nat} {es : List Row} {fl : List Nat} {sk : List Row} {ft er : Tab} {eb : Int32} {li st : Tab} {rd tu la : Int32} {dl : Bool} {sh tb : Int32} {sa sa' : Nat → Int32} {B : Nat} (h : GI n es fl sk ft er eb li st rd tu la dl sh tb sa B) (hq : ∀ q, q < 378 → sa' q = sa q) : GI n es fl sk ft er eb li st rd tu la dl sh tb sa' B := by
  obtain ⟨⟨hF, hE, hL, hSt⟩, ⟨e11, e3, e4, e7, e2, e9⟩, hV, hN, hKE, hKL, hKD, hKS, hKR, hKF, hKT⟩ := h
  have hn := hN.2
  have hfl := hKL.2.1.2
  refine ⟨⟨hF.cong (fun i hi j hj => hq _ (by omega)), hE, hL.cong (fun f hf => hq _ (by have := hfl f hf; omega)), hSt⟩, ⟨by rw [hq 11 (by decide)]; exact e11, by rw [hq 3 (by decide)]; exact e3, by rw [hq 4 (by decide)]; exact e4, by rw [hq 7 (by decide)]; exact e7, by rw [hq 2 (by decide)]; exact e2, by rw [hq 9 (by decide)]; exact e9⟩, ?_, ?_, ?_, ?_, ?_, ?_, ?_, ?_, ?_⟩
  · exact hV.cong (hq 4 (by decide)) (hq 5 (by decide)) (fun f hf => hq _ (by omega))
  · exact hN.cong (hq 0 (by decide))
  · exact hKE.cong (hq 1 (by decide)) (hq 10 (by decide)) (hq 11 (by decide)) (fun q _ _ => hq q (by omega))
  · exact hKL.cong (hq 6 (by decide)) (fun q _ _ => hq q (by omega)) (fun f hf => hq _ (by omega))
  · exact hKD.cong (fun f hf => ⟨hq _ (by omega), hq _ (by omega)⟩)
  · exact hKS.cong (hq 8 (by decide)) (fun q _ _ => hq q (by omega))
  · exact hKR.cong (hq 3 (by decide))
  · exact hKF.cong (fun f hf => ⟨hq _ (by omega), hq _ (by omega)⟩)
  · exact hKT.cong (hq 4 (by decide)) (hq 5 (by decide)) (hq 7 (by decide))
theorem GR.cong {ft er : Tab} {eb : Int32} {li st : Tab} {rd tu la : Int32} {dl : Bool} {sh tb : Int32} {sa sa' : Nat → Int32} {B : Nat} (h : GR ft er eb li st rd tu la dl sh tb sa B) (hq : ∀ q, q < 378 → sa' q = sa q) : GR ft er eb li st rd tu la dl sh tb sa' B := by
  obtain ⟨n, es, fl, sk, h⟩ := h
  exact ⟨n, es, fl, sk, h.cong hq⟩
theorem GI.mono {n : Nat} {es : List Row} {fl : List Nat} {sk : List Row} {ft er : Tab} {eb : Int32} {li st : Tab} {rd tu la : Int32} {dl : Bool} {sh tb : Int32} {sa : Nat → Int32} {B B' : Nat} (h : GI n es fl sk ft er eb li st rd tu la dl sh tb sa B) (hB : B ≤ B') : GI n es fl sk ft er eb li st rd tu la dl sh tb sa B' := by
  obtain ⟨h1, h2, hV, hN, hKE, hKL, hKD, hKS, hKR, hKF, hKT⟩ := h
  exact ⟨h1, h2, hV, hN, hKE.mono hB, hKL, hKD, hKS, hKR.mono hB, hKF, hKT⟩
theorem GR.mono {ft er : Tab} {eb : Int32} {li st : Tab} {rd tu la : Int32} {dl : Bool} {sh tb : Int32} {sa : Nat → Int32} {B B' : Nat} (h : GR ft er eb li st rd tu la dl sh tb sa B) (hB : B ≤ B') : GR ft er eb li st rd tu la dl sh tb sa B' := by
  obtain ⟨n, es, fl, sk, h⟩ := h
  exact ⟨n, es, fl, sk, h.mono hB⟩
theorem upd_id {f : Nat → Int32} {k : Nat} {v : Int32} (h : f k = v) : upd f k v = f := by
  funext q
  by_cases e : q = k
  · rw [e, pk_us, h]
  · rw [pk_un e]
/-! what an end of a turn leaves of the effects -/
theorem cdF_at {f : Int32} {r r' : Row} (h : cdF f r = some r') : gD r' 7 = gD r 7 ∧ gD r' 1 = gD r 1 ∧ ((∃ q, 1 ≤ q ∧ q ≤ 20 ∧ gD r 4 = nI q) → r.length = 8 → ∃ q, 1 ≤ q ∧ q ≤ 20 ∧ gD r' 4 = nI q) := by
  unfold cdF at h
  generalize (if gD r 5 = 0 then gD r 2 else gD r 3) = z at h
  by_cases h1 : z = f
  · rw [if_pos h1] at h
    by_cases h2 : 0 < gD r 4 - 1
    · rw [if_pos h2] at h
      cases h
      refine ⟨by simp [gD_eq, List.getElem?_set], by simp [gD_eq, List.getElem?_set], ?_⟩
      rintro ⟨q, b1, b2, b3⟩ hl
      obtain ⟨m, rfl⟩ : ∃ m, q = m + 1 := ⟨q - 1, by omega⟩
      rw [b3, nI_pred] at h2
      refine ⟨m, ?_, by omega, ?_⟩
      · rcases Nat.eq_zero_or_pos m with z | z
        · rw [z] at h2; exact absurd h2 (by decide)
        · exact z
      · rw [gD_eq, List.getElem?_set, if_pos rfl, if_pos (by omega), b3, nI_pred]; rfl
    · rw [if_neg h2] at h; cases h
  · rw [if_neg h1] at h
    cases h
    exact ⟨rfl, rfl, fun x _ => x⟩
theorem cd_mem {f : Int32} {es : List Row} {r' : Row} (h : r' ∈ es.filterMap (cdF f)) : ∃ r, r ∈ es ∧ cdF f r = some r' := by
  obtain ⟨r, h1, h2⟩ := List.mem_filterMap.mp h
  exact ⟨r, h1, h2⟩
theorem cd_len {f : Int32} (es : List Row) : (es.filterMap (cdF f)).length ≤ es.length := List.length_filterMap_le ..
theorem cd_b {f : Int32} : ∀ {es : List Row}, bOk es → bOk (es.filterMap (cdF f))
  | [], _ => List.Pairwise.nil
  | r :: t, h => by
    obtain ⟨h1, h2⟩ := List.pairwise_cons.mp h
    have ih := cd_b (f := f) h2
    rw [List.filterMap_cons]
    cases hc : cdF f r with
    | none => exact ih
    | some r' =>
      refine List.pairwise_cons.mpr ⟨fun x hx => ?_, ih⟩
      obtain ⟨y, y1, y2⟩ := cd_mem hx
      rw [(cdF_at hc).1, (cdF_at y2).1]
      exact h1 y y1
