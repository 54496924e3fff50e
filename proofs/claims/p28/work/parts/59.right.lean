/-! the law's check -/
def cntL (fl : List Nat) : Nat → Nat
  | 0 => 0
  | k + 1 => if k ∈ fl then cntL fl k + 1 else cntL fl k
theorem flt_le (k : Nat) (l : List Nat) : (l.filter (fun x => decide (x < k))).length ≤ (l.filter (fun x => decide (x < k + 1))).length := by
  induction l with
  | nil => simp
  | cons x t ih =>
    rw [List.filter_cons, List.filter_cons]
    by_cases e : x < k
    · rw [decide_eq_true e, decide_eq_true (show x < k + 1 by omega), if_pos rfl, if_pos rfl]; simpa using ih
    · rw [decide_eq_false e, if_neg (by decide)]
      split
      · rw [List.length_cons]; omega
      · exact ih
theorem flt_lt {k : Nat} : ∀ {l : List Nat}, k ∈ l → (l.filter (fun x => decide (x < k))).length < (l.filter (fun x => decide (x < k + 1))).length
  | x :: t, h => by
    have hle := flt_le k t
    rw [List.filter_cons, List.filter_cons]
    rcases List.mem_cons.mp h with e | h
    · rw [← e, decide_eq_false (Nat.lt_irrefl k), decide_eq_true (Nat.lt_succ_self k), if_neg (by decide), if_pos rfl, List.length_cons]; omega
    · have ih := flt_lt h
      by_cases e : x < k
      · rw [decide_eq_true e, decide_eq_true (show x < k + 1 by omega), if_pos rfl, if_pos rfl]; simpa using ih
      · rw [decide_eq_false e, if_neg (by decide)]
        split
        · rw [List.length_cons]; omega
        · exact ih
theorem cntL_le (fl : List Nat) : ∀ k, cntL fl k ≤ (fl.filter (fun x => decide (x < k))).length
  | 0 => Nat.zero_le _
  | k + 1 => by
    have ih := cntL_le fl k
    rw [cntL]
    split
    · have := flt_lt (l := fl) (k := k) (by assumption); omega
    · have := flt_le k fl; omega
theorem cntL_len (fl : List Nat) (k : Nat) : cntL fl k ≤ fl.length := Nat.le_trans (cntL_le fl k) (List.length_filter_le _ _)
/-- what an effect does to a speed -/
def dspF (f : Int32) (r : Row) : Int32 := if gD r 3 = f then (if gD r 0 = 1 then gD r 1 else if gD r 0 = 2 then -gD r 1 else 0) else 0
def spdF (f : Int32) : List Row → Int32 → Int32
  | [], s => s
  | r :: t, s => spdF f t (s + dspF f r)
theorem psum_sh (f q : Int32) : ∀ (t : List Row) (s : Int32), psumF f q t s = s + psumF f q t 0
  | [], s => (Int32.add_zero s).symm
  | r :: t, s => by
    rw [psumF, psumF]
    by_cases e : gD r 3 = f ∧ gD r 0 = q
    · rw [if_pos e, if_pos e, psum_sh f q t (s + gD r 1), psum_sh f q t (0 + gD r 1), Int32.zero_add, Int32.add_assoc]
    · rw [if_neg e, if_neg e]; exact psum_sh f q t s
theorem spd_eq (f : Int32) : ∀ (t : List Row) (s : Int32), spdF f t s = s + psumF f 1 t 0 - psumF f 2 t 0
  | [], s => by rw [spdF, psumF, psumF, Int32.add_zero, Int32.sub_zero]
  | r :: t, s => by
    rw [spdF, spd_eq f t, psumF, psumF, dspF]
    by_cases e : gD r 3 = f
    · by_cases e1 : gD r 0 = 1
      · have e2 : ¬ gD r 0 = 2 := by rw [e1]; decide
        rw [if_pos e, if_pos e1, if_pos ⟨e, e1⟩, if_neg (fun q => e2 q.2), Int32.zero_add, psum_sh f 1 t (gD r 1), Int32.add_assoc]
      · by_cases e2 : gD r 0 = 2
        · rw [if_pos e, if_neg e1, if_pos e2, if_neg (fun q => e1 q.2), if_pos ⟨e, e2⟩, Int32.zero_add, psum_sh f 2 t (gD r 1)]
          generalize psumF f 1 t 0 = A
          generalize psumF f 2 t 0 = B
          generalize gD r 1 = p
          simp only [Int32.sub_eq_add_neg, Int32.neg_add]
          ac_rfl
        · rw [if_pos e, if_neg e1, if_neg e2, if_neg (fun q => e1 q.2), if_neg (fun q => e2 q.2), Int32.add_zero]
    · rw [if_neg e, if_neg (fun q => e q.1), if_neg (fun q => e q.1), Int32.add_zero]
/-- how many effects a source holds -/
def hcF (f : Int32) : List Row → Int32 → Int32
  | [], s => s
  | r :: t, s => hcF f t (s + bI (decide (gD r 2 = f ∧ gD r 6 = 1)))
theorem hc_none {f : Int32} : ∀ {t : List Row} {s : Int32}, (∀ r ∈ t, ¬ (gD r 2 = f ∧ gD r 6 = 1)) → hcF f t s = s
  | [], s, _ => rfl
  | r :: t, s, h => by
    rw [hcF, decide_eq_false (h r List.mem_cons_self), show bI false = 0 from rfl, Int32.add_zero]
    exact hc_none (fun x hx => h x (List.mem_cons_of_mem _ hx))
theorem hc_le {f : Int32} : ∀ {t : List Row}, HUn t → hcF f t 0 = 0 ∨ hcF f t 0 = 1
  | [], _ => Or.inl rfl
  | r :: t, h => by
    obtain ⟨h1, h2⟩ := List.pairwise_cons.mp h
    rw [hcF]
    by_cases e : gD r 2 = f ∧ gD r 6 = 1
    · rw [decide_eq_true e, show (0 : Int32) + bI true = 1 from rfl]
      exact Or.inr (hc_none (fun x hx q => h1 x hx ⟨e.2, q.2, e.1.trans q.1.symm⟩))
    · rw [decide_eq_false e, show (0 : Int32) + bI false = 0 from rfl]
      exact hc_le h2
theorem con_none {f : Int32} : ∀ {t : List Row} {s : Int32}, (∀ r ∈ t, ¬ gD r 3 = f) → conF f t s = s
  | [], s, _ => rfl
  | r :: t, s, h => by
    rw [conF, if_neg (h r List.mem_cons_self)]
    exact con_none (fun x hx => h x (List.mem_cons_of_mem _ hx))
theorem held_row (f : Int32) : ∀ (t : List Row) (i : Nat), heldF f t i = -1 ∨ ∃ j r, t[j]? = some r ∧ heldF f t i = nI (i + j) ∧ gD r 6 = 1 ∧ gD r 2 = f
  | [], i => Or.inl rfl
  | r :: t, i => by
    rw [heldF]
    by_cases e : gD r 6 = 1 ∧ gD r 2 = f
    · rw [if_pos e]; exact Or.inr ⟨0, r, rfl, rfl, e⟩
    · rw [if_neg e]
      rcases held_row f t (i + 1) with q | ⟨j, x, q1, q2, q3⟩
      · exact Or.inl q
      · exact Or.inr ⟨j + 1, x, q1, by rw [q2]; congr 1; omega, q3⟩
theorem held_none {f : Int32} {t : List Row} {i : Nat} (h : ∀ r ∈ t, ¬ (gD r 6 = 1 ∧ gD r 2 = f)) : heldF f t i = -1 := by
  rcases held_row f t i with q | ⟨j, r, q1, -, q3⟩
  · exact q
  · exact absurd q3 (h r (List.mem_of_getElem? q1))
theorem spF_1 (sa : Nat → Int32) (es : List Row) (f : Nat) : ¬ spF sa es f < 1 := by
  unfold spF
  by_cases e : (1 : Int32) ≤ sa (12 + 6 * f) + psumF (nI f) 1 es 0 - psumF (nI f) 2 es 0
  · rw [if_pos e]
    rw [Int32.le_iff_toInt_le] at e
    rw [Int32.lt_iff_toInt_lt]
    omega
  · rw [if_neg e]; decide
section R59
variable {n : Nat} {sa : Nat → Int32} {es : List Row} {fl : List Nat} {sk : List Row} {ft er li st : Tab} {eb rd tu la sh tb : Int32} {dl : Bool} {fu : Nat}
variable {zft zer zli zst : Tab} {zeb zrd ztu zla zsh ztb : Int32} {zdl : Bool}
theorem r_230 (h : GX n sa es fl sk ft er li st) {k : Nat} (hk : k < n) (v1 v2 v3 v4 : Int32) : ∀ (t : List Row) (kk e : Nat) (s c hd : Int32), es.drop e = t → e ≤ es.length → t.length < kk → fL_isRight_L230 fu ft er eb li st rd tu la dl sh tb zft zer zeb zli zst zrd ztu zla zdl zsh ztb v1 v2 v3 v4 (nI k) (sa (12 + 6 * k + 2)) kk s c hd (nI e) = some (.inl (spdF (nI k) t s, conF (nI k) t c, hcF (nI k) t hd))
  | [], kk + 1, e, s, c, hd, hdr, he, hkk => by
    have hle := h.2.1.le
    rw [fL_isRight_L230, v_2 eb rd tu sh tb h]
    simp only [Option.bind_some]
    rw [if_pos (nle (dr_nil hdr) (by omega))]
    rfl
  | r :: t, kk + 1, e, s, c, hd, hdr, he, hkk => by
    have hle := h.2.1.le
    have hn := h.n10
    obtain ⟨h1, h2, h3⟩ := dr_cons hdr
    have a0 : fX5_effect er (nI e) 0 = some (gD r 0) := e_ok h h1 (j := 0) (by decide)
    have a1 : fX5_effect er (nI e) 1 = some (gD r 1) := e_ok h h1 (j := 1) (by decide)
    have a2 : fX5_effect er (nI e) 2 = some (gD r 2) := e_ok h h1 (j := 2) (by decide)
    have a3 : fX5_effect er (nI e) 3 = some (gD r 3) := e_ok h h1 (j := 3) (by decide)
    have a4 : fX5_effect er (nI e) 4 = some (gD r 4) := e_ok h h1 (j := 4) (by decide)
    have a5 : fX5_effect er (nI e) 5 = some (gD r 5) := e_ok h h1 (j := 5) (by decide)
    have a6 : fX5_effect er (nI e) 6 = some (gD r 6) := e_ok h h1 (j := 6) (by decide)
    obtain ⟨-, a, b, p, q, p1, p2, p3, p4, p5, p6, p7, p8, p9, p10, p11⟩ := h.2.2.2.2.2.1.1 r (List.mem_of_getElem? h1)
    have ih := fun s c hd => r_230 h hk v1 v2 v3 v4 t kk (e + 1) s c hd h2 h3 (by simpa using hkk)
    have j388 : ∀ s c hd K, fL_isRight_J388 fu ft er eb li st rd tu la dl sh tb zft zer zeb zli zst zrd ztu zla zdl zsh ztb v1 v2 v3 v4 (nI k) (sa (12 + 6 * k + 2)) s c hd (nI e) K = K s c hd (nI (e + 1)) := by
      intro s c hd K
      rw [fL_isRight_J388, a4]
      simp only [Option.bind_some]
      rw [if_pos (by rw [p9]; exact nI_le (a := 1) p7 (by omega)), nS]
    have j358 : ∀ c hd t0 t1 K, fL_isRight_J358 fu ft er eb li st rd tu la dl sh tb zft zer zeb zli zst zrd ztu zla zdl zsh ztb v1 v2 v3 v4 (nI k) (sa (12 + 6 * k + 2)) c hd (nI e) t0 t1 K = K (t1 + t0) c hd (nI (e + 1)) := by
      intro c hd t0 t1 K
      rw [fL_isRight_J358, a2, a5]
      simp only [Option.bind_some, j388]
      by_cases z : sa (12 + 6 * k + 2) = 0
      · rw [if_pos z]
        by_cases y : gD r 2 = nI k
        · have ea : a = k := (nI_inj (by omega) (by omega)).mp (p2.symm.trans y)
          rw [if_pos y, if_neg (p11 (by rw [ea]; unfold stF; rw [z]; rfl)).2]
        · rw [if_neg y]
      · rw [if_neg z]
    have j293 : ∀ s c t0 t1 K, fL_isRight_J293 fu ft er eb li st rd tu la dl sh tb zft zer zeb zli zst zrd ztu zla zdl zsh ztb v1 v2 v3 v4 (nI k) (sa (12 + 6 * k + 2)) s c (nI e) t0 t1 K = K (s + dspF (nI k) r) c (t1 + bI t0) (nI (e + 1)) := by
      intro s c t0 t1 K
      rw [fL_isRight_J293, a3, a0, a1, dspF]
      simp only [Option.bind_some, j358]
      by_cases z : gD r 3 = nI k
      · rw [if_pos z, if_pos z]
        by_cases y : gD r 0 = 1
        · rw [if_pos y, if_pos y]
        · rw [if_neg y, if_neg y]
          by_cases x : gD r 0 = 2
          · rw [if_pos x, if_pos x]
          · rw [if_neg x, if_neg x]
      · rw [if_neg z, if_neg z]
    have j259 : ∀ s hd t0 t1 K, fL_isRight_J259 fu ft er eb li st rd tu la dl sh tb zft zer zeb zli zst zrd ztu zla zdl zsh ztb v1 v2 v3 v4 (nI k) (sa (12 + 6 * k + 2)) s hd (nI e) t0 t1 K = K (s + dspF (nI k) r) (t1 + bI t0) (hd + bI (decide (gD r 2 = nI k ∧ gD r 6 = 1))) (nI (e + 1)) := by
      intro s hd t0 t1 K
      rw [fL_isRight_J259, fL_isRight_J292, a2, a6]
      simp only [Option.bind_some, j293]
      by_cases z : gD r 2 = nI k
      · rw [if_pos z]
        by_cases y : gD r 6 = 1
        · rw [if_pos y, decide_eq_true ⟨z, y⟩]
        · rw [if_neg y, decide_eq_false (fun w => y w.2)]
      · rw [if_neg z, decide_eq_false (fun w => z w.1)]
    rw [fL_isRight_L230, v_2 eb rd tu sh tb h]
    simp only [Option.bind_some]
    rw [if_neg (nge h3 (by omega)), a3]
    simp only [Option.bind_some, j259, ih, spdF, conF, hcF]
    by_cases z : gD r 3 = nI k
    · rw [if_pos z, if_pos z]; rfl
    · rw [if_neg z, if_neg z, show c + bI false = c from Int32.add_zero c]
theorem r_544 (h : GX n sa es fl sk ft er li st) (hT : PT sa fl sk tu) (hz : GZ zft zer zli zst) (hfu : 2000 < fu) : ∀ (d k kk : Nat), k + d = n → d < kk → ∃ z', GVZ z' ∧ fL_isRight_L544 fu ft er eb li st rd tu la dl sh tb zft zer zeb zli zst zrd ztu zla zdl zsh ztb (cntS sa n) (sumL sa n) kk (nI k) = some (true, z')
  | 0, k, kk + 1, hd, hkk => by
    have hn := h.n10
    have hle := h.2.1.le
    have hl8 := h.2.2.2.1.2.2.2.1
    rw [fL_isRight_L544, v_0 eb rd tu sh tb h, v_1 eb rd tu sh tb h hfu, v_2 eb rd tu sh tb h, v_5 eb rd tu sh tb h]
    simp only [Option.bind_some, if_true]
    rw [if_pos (nI_le (by omega) (by omega)), if_neg (show ¬ (30 : Int32) < nI es.length from nI_nlt (a := 30) hle (by omega))]
    by_cases e : sk = []
    · subst e
      obtain ⟨tu', s1⟩ := settle0 (eb := eb) (sh := sh) h hT.w hfu
      rw [if_neg (show ¬ 0 < nI ([] : List Row).length by decide), life_ok h hz s1 h hfu]
      simp only [Option.bind_some, if_true]
      exact ⟨_, h.z, rfl⟩
    · have hp : 0 < sk.length := List.length_pos_iff.mpr e
      rw [if_pos (show (0 : Int32) < nI sk.length from nI_lt (a := 0) hp (by omega))]
      exact ⟨_, hz, rfl⟩
  | d + 1, k, kk + 1, hd, hkk => by
    have hn := h.n10
    have hl8 := h.2.2.2.1.2.2.2.1
    have hk : k < n := by omega
    obtain ⟨z', z1, z2⟩ := r_544 h hT hz hfu d (k + 1) kk (by omega) (by omega)
    refine ⟨z', z1, ?_⟩
    have b2 : fX5_fighter fu ft er li (nI k) 2 = some (sa (12 + 6 * k + 2)) := f_ok (j := 2) h hk (by decide) hfu
    have b4 : fX5_fighter fu ft er li (nI k) 4 = some (sa (12 + 6 * k + 3)) := f_ok (j := 4) h hk (by decide) hfu
    have jm : ∀ b K, mayB sa sk k = b → fL_isRight_J609 fu ft er eb li st rd tu la dl sh tb zft zer zeb zli zst zrd ztu zla zdl zsh ztb (cntS sa n) (sumL sa n) (nI k) b K = K (nI (k + 1)) := by
      intro b K hb
      rw [fL_isRight_J609, may_ok h hk, hb]
      simp only [Option.bind_some, if_true, nS]
    rw [fL_isRight_L544, v_0 eb rd tu sh tb h, v_5 eb rd tu sh tb h, b2, b4]
    simp only [Option.bind_some]
    rw [if_neg (nge hk (by omega))]
    rcases List.eq_nil_or_concat sk with e | ⟨sk0, r, e⟩
    · subst e
      rw [if_pos (show nI ([] : List Row).length ≤ 0 by decide), fL_isRight_J608, jm false _ rfl]
      exact z2
    · rw [List.concat_eq_append] at e
      have hr1 := s_ok h e
      have eM : mayB sa sk k = (decide (sk.length < 8) && stF sa k && decide (sa (12 + 6 * k + 3) = 1) && !decide (gD r 1 = nI k)) := by
        rw [e]; unfold mayB; simp
      have hp : 0 < sk.length := by rw [e]; simp
      rw [if_neg (show ¬ nI sk.length ≤ 0 from nI_nle hp (by omega)), hr1]
      simp only [Option.bind_some, fL_isRight_J608]
      by_cases q8 : sk.length = 8
      · rw [if_pos (show (8 : Int32) ≤ nI sk.length from nI_le (a := 8) (by omega) (by omega)), jm false _ (by rw [eM, decide_eq_false (show ¬ sk.length < 8 by omega)]; rfl)]
        exact z2
      · rw [if_neg (show ¬ (8 : Int32) ≤ nI sk.length from nI_ge (b := 8) (by omega) (by decide))]
        rw [decide_eq_true (show sk.length < 8 by omega), Bool.true_and] at eM
        by_cases q2 : sa (12 + 6 * k + 2) ≤ 0
        · rw [if_pos q2, jm false _ (by rw [eM]; unfold stF; simp [q2])]
          exact z2
        · rw [if_neg q2]
          have hs : stF sa k = true := decide_eq_true q2
          by_cases q4 : sa (12 + 6 * k + 3) = 1
          · rw [if_pos q4]
            by_cases q1 : gD r 1 = nI k
            · rw [if_pos q1, jm false _ (by rw [eM, decide_eq_true q1]; simp)]
              exact z2
            · rw [if_neg q1, jm true _ (by rw [eM, hs, decide_eq_true q4, decide_eq_false q1]; rfl)]
              exact z2
          · rw [if_neg q4, jm false _ (by rw [eM, decide_eq_false q4]; simp)]
            exact z2
theorem r_516 (h : GX n sa es fl sk ft er li st) (hT : PT sa fl sk tu) (hz : GZ zft zer zli zst) (hfu : 2000 < fu) : ∃ z', GVZ z' ∧ fL_isRight_J516 fu ft er eb li st rd tu la dl sh tb zft zer zeb zli zst zrd ztu zla zdl zsh ztb (cntS sa n) (sumL sa n) tu = some (true, z') := by
  have hn := h.n10
  have hl8 := h.2.2.2.1.2.2.2.1
  obtain ⟨z', z1, z2⟩ := r_544 (eb := eb) (rd := rd) (la := la) (sh := sh) (tb := tb) (dl := dl) (zeb := zeb) (zrd := zrd) (ztu := ztu) (zla := zla) (zsh := zsh) (ztb := ztb) (zdl := zdl) h hT hz hfu n 0 fu (by omega) (by omega)
  have z2 : fL_isRight_L544 fu ft er eb li st rd tu la dl sh tb zft zer zeb zli zst zrd ztu zla zdl zsh ztb (cntS sa n) (sumL sa n) fu 0 = some (true, z') := z2
  refine ⟨z', z1, ?_⟩
  rw [fL_isRight_J516, v_5 eb rd tu sh tb h]
  simp only [Option.bind_some]
  rw [if_neg (show ¬ (8 : Int32) < nI sk.length from nI_nlt (a := 8) hl8 (by omega)), z2]
  by_cases e : sk = []
  · subst e
    rw [if_pos (show nI ([] : List Row).length ≤ 0 by decide)]
  · have hp : 0 < sk.length := List.length_pos_iff.mpr e
    rw [if_neg (show ¬ nI sk.length ≤ 0 from nI_nle hp (by omega))]
    rcases hT with hT | ⟨f, f1, f2, -⟩
    · exact absurd hT.2 e
    · have := h.2.2.2.2.2.2.1.1.2 f f1
      rw [f2, if_pos (nI_pos' (by omega))]
theorem r_459 (h : GX n sa es fl sk ft er li st) (hT : PT sa fl sk tu) (hz : GZ zft zer zli zst) (hfu : 2000 < fu) {v2 : Nat} (hv : v2 ≤ fl.length) : ∀ (d i kk : Nat), v2 ≤ i + 1 + d → i ≤ 100 → d < kk → ∃ z', GVZ z' ∧ fL_isRight_L459 fu ft er eb li st rd tu la dl sh tb zft zer zeb zli zst zrd ztu zla zdl zsh ztb (cntS sa n) (nI v2) (sumL sa n) tu kk (nI (i + 1)) = some (true, z') := by
  have hn := h.n10
  have hl := h.2.2.1.le
  have hPL := h.2.2.2.2.2.2.1
  have base : ∀ i kk, v2 ≤ i + 1 → i ≤ 100 → ∃ z', GVZ z' ∧ fL_isRight_L459 fu ft er eb li st rd tu la dl sh tb zft zer zeb zli zst zrd ztu zla zdl zsh ztb (cntS sa n) (nI v2) (sumL sa n) tu (kk + 1) (nI (i + 1)) = some (true, z') := by
    intro i kk hi hi2
    obtain ⟨z', z1, z2⟩ := r_516 (eb := eb) (rd := rd) (la := la) (sh := sh) (tb := tb) (dl := dl) (zeb := zeb) (zrd := zrd) (ztu := ztu) (zla := zla) (zsh := zsh) (ztb := ztb) (zdl := zdl) h hT hz hfu
    refine ⟨z', z1, ?_⟩
    rw [fL_isRight_L459, if_pos (nI_le hi (by omega)), z2]
    rcases hT with ⟨hT, -⟩ | ⟨f, f1, f2, f3, f4⟩
    · rw [hT, if_pos (by decide)]
    · have hf := hPL.1.2 f f1
      have b2 : fX5_fighter fu ft er li (nI f) 2 = some (sa (12 + 6 * f + 2)) := f_ok (j := 2) h hf (by decide) hfu
      have b5 : fX5_fighter fu ft er li (nI f) 5 = some (stOf sa fl f) := f_ok (j := 5) h hf (by decide) hfu
      rw [f2, if_neg (nI_pos (by omega)), b2, b5]
      simp only [Option.bind_some]
      rw [if_neg (fun q => by unfold stF at f4; rw [q] at f4; cases f4), if_pos (by rw [stOf, if_pos f1]; exact f3)]
  intro d
  induction d with
  | zero =>
    intro i kk h1 h2 h3
    obtain ⟨kk, rfl⟩ : ∃ q, kk = q + 1 := ⟨kk - 1, by omega⟩
    exact base i kk (by omega) h2
  | succ d ih =>
    intro i kk h1 h2 h3
    obtain ⟨kk, rfl⟩ : ∃ q, kk = q + 1 := ⟨kk - 1, by omega⟩
    rcases Nat.lt_or_ge (i + 1) v2 with q | q
    · obtain ⟨z', z1, z2⟩ := ih (i + 1) kk (by omega) (by omega) (by omega)
      refine ⟨z', z1, ?_⟩
      have g1 := List.getElem?_eq_getElem (show i + 1 < fl.length by omega)
      have g0 := List.getElem?_eq_getElem (show i < fl.length by omega)
      have m1 := hPL.1.2 _ (List.mem_of_getElem? g1)
      have m0 := hPL.1.2 _ (List.mem_of_getElem? g0)
      rw [fL_isRight_L459, if_neg (nI_ge q (by omega)), l_ok h g1, nI_pred, l_ok h g0]
      simp only [Option.bind_some]
      rw [if_neg (fun w => by
        have e := (nI_inj (by omega) (by omega)).mp w
        rw [← e] at g0
        have := (List.getElem?_inj (by omega) hPL.2.1).mp (g1.trans g0.symm)
        omega), nS]
      exact z2
    · exact base i kk q h2
theorem r_16 (h : GX n sa es fl sk ft er li st) (hT : PT sa fl sk tu) (hz : GZ zft zer zli zst) (hfu : 2000 < fu) : ∀ (d k kk : Nat), k + d = n → d < kk → ∃ z', GVZ z' ∧ fL_isRight_L16 fu ft er eb li st rd tu la dl sh tb zft zer zeb zli zst zrd ztu zla zdl zsh ztb tu kk (cntS sa k) (nI (cntL fl k)) (sumL sa k) (nI k) = some (true, z')
  | 0, k, kk + 1, hd, hkk => by
    have hn := h.n10
    have hl := h.2.2.1.le
    have hc := cntL_len fl n
    have e : k = n := by omega
    subst e
    obtain ⟨z', z1, z2⟩ := r_459 (eb := eb) (rd := rd) (la := la) (sh := sh) (tb := tb) (dl := dl) (zeb := zeb) (zrd := zrd) (ztu := ztu) (zla := zla) (zsh := zsh) (ztb := ztb) (zdl := zdl) h hT hz hfu hc 10 0 fu (by omega) (by omega) (by omega)
    have z2 : fL_isRight_L459 fu ft er eb li st rd tu la dl sh tb zft zer zeb zli zst zrd ztu zla zdl zsh ztb (cntS sa k) (nI (cntL fl k)) (sumL sa k) tu fu 1 = some (true, z') := z2
    refine ⟨z', z1, ?_⟩
    rw [fL_isRight_L16, v_0 eb rd tu sh tb h]
    simp only [Option.bind_some]
    rw [if_pos (nI_le (Nat.le_refl _) (by omega)), z2]
  | d + 1, k, kk + 1, hd, hkk => by
    have hn := h.n10
    have hle := h.2.1.le
    have hk : k < n := by omega
    have hPE := h.2.2.2.2.2.1
    have hPL := h.2.2.2.2.2.2.1
    obtain ⟨z', z1, z2⟩ := r_16 h hT hz hfu d (k + 1) kk (by omega) (by omega)
    refine ⟨z', z1, ?_⟩
    obtain ⟨sp, lf, fi, f1, f2, f3, f4, f5, f6, f7, f8⟩ := h.2.2.2.2.1 k hk
    have b0 : fX5_fighter fu ft er li (nI k) 0 = some (sa (12 + 6 * k)) := f_ok (j := 0) h hk (by decide) hfu
    have b1 : fX5_fighter fu ft er li (nI k) 1 = some (sa (12 + 6 * k + 1)) := f_ok (j := 1) h hk (by decide) hfu
    have b2 : fX5_fighter fu ft er li (nI k) 2 = some (sa (12 + 6 * k + 2)) := f_ok (j := 2) h hk (by decide) hfu
    have b3 : fX5_fighter fu ft er li (nI k) 3 = some (spF sa es k) := f_ok (j := 3) h hk (by decide) hfu
    have b5 : fX5_fighter fu ft er li (nI k) 5 = some (stOf sa fl k) := f_ok (j := 5) h hk (by decide) hfu
    have b6 : fX5_fighter fu ft er li (nI k) 6 = some (plF k fl 0) := f_ok (j := 6) h hk (by decide) hfu
    have b7 : fX5_fighter fu ft er li (nI k) 7 = some (heldF (nI k) es 0) := f_ok (j := 7) h hk (by decide) hfu
    have b8 : fX5_fighter fu ft er li (nI k) 8 = some (conF (nI k) es 0) := f_ok (j := 8) h hk (by decide) hfu
    have j212 : ∀ v1 v2 v3 K, fL_isRight_J212 fu ft er eb li st rd tu la dl sh tb zft zer zeb zli zst zrd ztu zla zdl zsh ztb v1 v2 v3 tu (nI k) (sa (12 + 6 * k + 2)) K = K v1 v2 v3 (nI (k + 1)) := by
      intro v1 v2 v3 K
      have l := r_230 (fu := fu) (eb := eb) (rd := rd) (tu := tu) (la := la) (sh := sh) (tb := tb) (dl := dl) (zft := zft) (zer := zer) (zli := zli) (zst := zst) (zeb := zeb) (zrd := zrd) (ztu := ztu) (zla := zla) (zsh := zsh) (ztb := ztb) (zdl := zdl) h hk v1 v2 v3 tu es fu 0 (sa (12 + 6 * k)) 0 0 rfl (Nat.zero_le _) (by omega)
      have l : fL_isRight_L230 fu ft er eb li st rd tu la dl sh tb zft zer zeb zli zst zrd ztu zla zdl zsh ztb v1 v2 v3 tu (nI k) (sa (12 + 6 * k + 2)) fu (sa (12 + 6 * k)) 0 0 0 = some (.inl (spdF (nI k) es (sa (12 + 6 * k)), conF (nI k) es 0, hcF (nI k) es 0)) := l
      rw [spd_eq] at l
      have hh : ¬ (1 : Int32) < hcF (nI k) es 0 := by
        rcases hc_le (f := nI k) hPE.2 with q | q <;> rw [q] <;> decide
      have j445 : ∀ t0, spF sa es k = t0 → fL_isRight_J445 fu ft er eb li st rd tu la dl sh tb zft zer zeb zli zst zrd ztu zla zdl zsh ztb v1 v2 v3 tu (nI k) t0 (spF sa es k) K = K v1 v2 v3 (nI (k + 1)) := by
        intro t0 ht
        rw [fL_isRight_J445, if_pos ht, nS]
      rw [fL_isRight_J212, b0]
      simp only [Option.bind_some, l, Sum.elim_inl, b8, if_true]
      rw [if_neg hh, b3]
      simp only [Option.bind_some]
      by_cases q : (1 : Int32) ≤ sa (12 + 6 * k) + psumF (nI k) 1 es 0 - psumF (nI k) 2 es 0
      · rw [if_pos q, j445 _ (by rw [spF, if_pos q])]
      · rw [if_neg q, j445 _ (by rw [spF, if_neg q])]
    have j189 : ∀ v1 v2 v3 K, fL_isRight_J189 fu ft er eb li st rd tu la dl sh tb zft zer zeb zli zst zrd ztu zla zdl zsh ztb v1 v2 v3 tu (nI k) (sa (12 + 6 * k + 2)) (heldF (nI k) es 0) K = K v1 v2 v3 (nI (k + 1)) := by
      intro v1 v2 v3 K
      rw [fL_isRight_J189, b8]
      simp only [Option.bind_some, j212]
      by_cases z : sa (12 + 6 * k + 2) = 0
      · have hs : stF sa k = false := by unfold stF; rw [z]; rfl
        have c0 : conF (nI k) es 0 = 0 := con_none (fun r hr w => by
          obtain ⟨-, a, b, p, q, p1, p2, p3, p4, p5, p6, p7, p8, p9, p10, p11⟩ := hPE.1 r hr
          have : b = k := (nI_inj (by omega) (by omega)).mp (p4.symm.trans w)
          rw [this, hs] at p10; cases p10)
        have d0 : heldF (nI k) es 0 = -1 := held_none (fun r hr w => by
          obtain ⟨-, a, b, p, q, p1, p2, p3, p4, p5, p6, p7, p8, p9, p10, p11⟩ := hPE.1 r hr
          have : a = k := (nI_inj (by omega) (by omega)).mp (p2.symm.trans w.2)
          exact (p11 (by rw [this]; exact hs)).1 w.1)
        rw [if_pos z, if_pos c0, d0, if_pos (by decide)]
      · rw [if_neg z]
    have j150 : ∀ v1 v2 v3 K, fL_isRight_J150 fu ft er eb li st rd tu la dl sh tb zft zer zeb zli zst zrd ztu zla zdl zsh ztb v1 v2 v3 tu (nI k) (sa (12 + 6 * k + 2)) K = K v1 v2 v3 (nI (k + 1)) := by
      intro v1 v2 v3 K
      rw [fL_isRight_J150, b7]
      simp only [Option.bind_some, j189]
      rcases held_row (nI k) es 0 with q | ⟨j, r, q1, q2, q3, q4⟩
      · rw [if_pos (by rw [q]; decide)]
      · have hj := tl_lt q1
        have a2 : fX5_effect er (nI j) 2 = some (gD r 2) := e_ok h q1 (j := 2) (by decide)
        have a6 : fX5_effect er (nI j) 6 = some (gD r 6) := e_ok h q1 (j := 6) (by decide)
        rw [Nat.zero_add] at q2
        rw [q2, if_neg (nI_pos (by omega)), a2, a6]
        simp only [Option.bind_some]
        rw [if_pos q4, if_pos q3]
    have j74 : ∀ v1 v2 v3 t0 K, fL_isRight_J74 fu ft er eb li st rd tu la dl sh tb zft zer zeb zli zst zrd ztu zla zdl zsh ztb v1 v3 tu (nI k) (sa (12 + 6 * k + 2)) (plF k fl 0) t0 v2 K = K v1 (v2 + bI t0) v3 (nI (k + 1)) := by
      intro v1 v2 v3 t0 K
      rw [fL_isRight_J74, if_neg (by rw [f7]; exact nI_pos (by omega)), b1, b3]
      simp only [Option.bind_some]
      rw [if_neg (by rw [f8, f7]; exact nI_nlt f3 (by omega)), if_neg (spF_1 sa es k), fL_isRight_J114, fL_isRight_J114, b5]
      simp only [Option.bind_some, fL_isRight_J129, j150, if_true]
      by_cases hm : k ∈ fl
      · obtain ⟨m, m1, m2⟩ := plF_yes (i := 0) hm
        rw [Nat.zero_add] at m1
        have hml := tl_lt m2
        have hl := h.2.2.1.le
        have hst : ¬ stOf sa fl k < 0 := by
          rw [stOf, if_pos hm]
          rcases hPL.2.2 k hm with q | q <;> rw [q] <;> decide
        rw [m1, if_neg (nI_pos (by omega)), if_neg hst, l_ok h m2]
        simp only [Option.bind_some, if_true]
        rw [if_neg (nI_pos (by omega))]
      · rw [plF_no hm, if_pos (by decide), if_pos (by rw [stOf, if_neg hm]; decide), if_pos (by decide)]
    have j51 : ∀ v1 v2 v3 t0 K, fL_isRight_J51 fu ft er eb li st rd tu la dl sh tb zft zer zeb zli zst zrd ztu zla zdl zsh ztb v2 v3 tu (nI k) (sa (12 + 6 * k + 2)) t0 v1 K = K (v1 + bI t0) (v2 + bI (decide (k ∈ fl))) v3 (nI (k + 1)) := by
      intro v1 v2 v3 t0 K
      rw [fL_isRight_J51, b6]
      simp only [Option.bind_some, j74]
      by_cases hm : k ∈ fl
      · obtain ⟨m, m1, m2⟩ := plF_yes (i := 0) hm
        rw [Nat.zero_add] at m1
        have hml := tl_lt m2
        have hl := h.2.2.1.le
        rw [m1, if_neg (nI_pos (by omega)), decide_eq_true hm]
      · rw [plF_no hm, if_pos (by decide), decide_eq_false hm]
    have eL : nI (cntL fl k) + bI (decide (k ∈ fl)) = nI (cntL fl (k + 1)) := by
      rw [cntL]
      by_cases hm : k ∈ fl
      · rw [if_pos hm, decide_eq_true hm]; exact nS _
      · rw [if_neg hm, decide_eq_false hm]; exact Int32.add_zero _
    have z2 : fL_isRight_L16 fu ft er eb li st rd tu la dl sh tb zft zer zeb zli zst zrd ztu zla zdl zsh ztb tu kk (cntS sa (k + 1)) (nI (cntL fl (k + 1))) (sumL sa k + sa (12 + 6 * k + 2)) (nI (k + 1)) = some (true, z') := z2
    rw [fL_isRight_L16, v_0 eb rd tu sh tb h, b2]
    simp only [Option.bind_some]
    rw [if_neg (nge hk (by omega)), j51, j51, eL]
    rw [cntS] at z2
    by_cases q : sa (12 + 6 * k + 2) ≤ 0
    · have hs : stF sa k = false := by unfold stF; simp [q]
      rw [hs, if_neg (by decide)] at z2
      rw [if_pos q, show cntS sa k + bI false = cntS sa k from Int32.add_zero _]
      exact z2
    · have hs : stF sa k = true := decide_eq_true q
      rw [hs, if_pos rfl] at z2
      rw [if_neg q]
      exact z2
/-- the law's check holds of every game -/
theorem right_ok (h : GX n sa es fl sk ft er li st) (hT : PT sa fl sk tu) (hz : GZ zft zer zli zst) (hfu : 2000 < fu) : ∃ z', GVZ z' ∧ fL_isRight fu ft er eb li st rd tu la dl sh tb zft zer zeb zli zst zrd ztu zla zdl zsh ztb = some (true, z') := by
  have hn := h.n10
  obtain ⟨z', z1, z2⟩ := r_16 (eb := eb) (rd := rd) (la := la) (sh := sh) (tb := tb) (dl := dl) (zeb := zeb) (zrd := zrd) (ztu := ztu) (zla := zla) (zsh := zsh) (ztb := ztb) (zdl := zdl) h hT hz hfu n 0 fu (by omega) (by omega)
  refine ⟨z', z1, ?_⟩
  rw [fL_isRight, v_4]
  exact z2
end R59
