/-! the stack is settled -/
theorem c_topAct {st : Tab} {sk : List Row} {r : Row} {j : Nat} (h : TL 7 8 st (sk ++ [r])) (hj : j < 7) : fX1_aboutAct st 0 (nI j) = some (gD r j) := by
  have hc : fX4_count st = some (nI (sk.length + 1)) := by rw [t_count h]; simp
  rw [fX1_aboutAct, hc]
  simp only [Option.bind_some]
  rw [show nI (sk.length + 1) - 1 - 0 = nI sk.length by rw [nI_pred, Int32.sub_zero], t_at h d7 (show (sk ++ [r])[sk.length]? = some r by simp) hj]
  rfl
theorem c_drop {st : Tab} {sk : List Row} {r : Row} (h : TL 7 8 st (sk ++ [r])) : ∃ st', fX1_dropTop st = some st' ∧ TL 7 8 st' sk := by
  have hc : fX4_count st = some (nI (sk.length + 1)) := by rw [t_count h]; simp
  obtain ⟨st', a, b⟩ := t_remove h d7 (i := sk.length) (by simp)
  rw [mid_er sk [] r, List.append_nil] at b
  refine ⟨st', ?_, b⟩
  rw [fX1_dropTop, hc]
  simp only [Option.bind_some, nI_pred, a]
theorem g_pop {n : Nat} {es : List Row} {fl : List Nat} {sk : List Row} {r : Row} {ft er : Tab} {eb : Int32} {li st : Tab} {rd tu la : Int32} {dl : Bool} {sh tb : Int32} {sa : Nat → Int32} {B : Nat} (h : GI n es fl (sk ++ [r]) ft er eb li st rd tu la dl sh tb sa B) :
    ∃ st', fX1_dropTop st = some st' ∧ GI n es fl sk ft er eb li st' rd tu la dl sh tb (upd sa 8 (nI sk.length)) B := by
  obtain ⟨⟨hF, hE, hL, hSt⟩, ⟨e11, e3, e4, e7, e2, e9⟩, hV, hN, hKE, hKL, hKD, hKS, hKR, hKF, hKT⟩ := h
  obtain ⟨st', s1, s2⟩ := c_drop hSt
  have k : ∀ q, q ≠ 8 → upd sa 8 (nI sk.length) q = sa q := fun q c => pk_un c
  refine ⟨st', s1, ⟨⟨hF.cong (fun i hi j hj => k _ (by omega)), hE, hL.cong (fun f hf => k _ (by omega)), s2⟩, ⟨by rw [k 11 (by decide)]; exact e11, by rw [k 3 (by decide)]; exact e3, by rw [k 4 (by decide)]; exact e4, by rw [k 7 (by decide)]; exact e7, by rw [k 2 (by decide)]; exact e2, by rw [k 9 (by decide)]; exact e9⟩, ?_, ?_, ?_, ?_, ?_, ?_, ?_, ?_, ?_⟩⟩
  · exact hV.cong (k 4 (by decide)) (k 5 (by decide)) (fun f hf => k _ (by omega))
  · exact hN.cong (k 0 (by decide))
  · exact hKE.cong (k 1 (by decide)) (k 10 (by decide)) (k 11 (by decide)) (fun q _ _ => k q (by omega))
  · exact hKL.cong (k 6 (by decide)) (fun q _ _ => k q (by omega)) (fun f hf => k _ (by omega))
  · exact hKD.cong (fun f hf => ⟨k _ (by omega), k _ (by omega)⟩)
  · have hlen := hKS.1.2.1
    simp at hlen
    refine ⟨⟨pk_us, by omega, fun i x hx => ?_⟩, fun x hx => hKS.2 x (List.mem_append_left _ hx)⟩
    obtain ⟨a, b⟩ := hKS.1.2.2 i x (by rw [List.getElem?_append_left (tl_lt hx)]; exact hx)
    exact ⟨a, fun j hj => by rw [k _ (by omega)]; exact b j hj⟩
  · exact hKR.cong (k 3 (by decide))
  · exact hKF.cong (fun f hf => ⟨k _ (by omega), k _ (by omega)⟩)
  · have h5 := hKT.2.1 (by simp)
    refine ⟨Or.inr ?_, fun _ => by rw [k 5 (by decide)]; exact h5, by rw [k 7 (by decide)]; exact hKT.2.2⟩
    rw [k 4 (by decide)]
    rcases hKT.1 with ⟨-, a⟩ | b
    · simp at a
    · exact b
theorem g_happen {n : Nat} {es : List Row} {fl : List Nat} {sk : List Row} {r : Row} {ft er : Tab} {eb : Int32} {li st : Tab} {rd tu la : Int32} {dl : Bool} {sh tb : Int32} {sa : Nat → Int32} {B fu S t : Nat} (h : GI n es fl sk ft er eb li st rd tu la dl sh tb sa B) (hS : S < 8) (hr : ∀ j, j < 7 → sa (322 + 7 * S + j) = gD r j) (so : sOk n r) (ht : t < n) (h2 : gD r 2 = nI t) (hst : gD r 0 ≠ 3 → stF sa t = true) (hfu : 2000 < fu) (hB : B < 2 ^ 30) :
    ∃ es' sk' ft' er' eb' st' sa', fX1_settleTop_J81 fu sh ft er eb st (gD r 0) (gD r 1) (gD r 2) (gD r 3) (gD r 4) (gD r 5) (gD r 6) = some (true, ft', er', eb', st') ∧ fX6_happen fu sa (nI S) = some sa' ∧ GI n es' fl sk' ft' er' eb' li st' rd tu la dl sh tb sa' (B + 1) ∧ sk'.length ≤ sk.length := by
  obtain ⟨⟨a, ha, h1⟩, -, ⟨w, w1, w2, w3, w4⟩, h5⟩ := so
  have k0 : fX6_ofAct sa (nI S) 0 = some (gD r 0) := by rw [← hr 0 (by decide)]; exact m_ofK sa hS (by decide)
  have k1 : fX6_ofAct sa (nI S) 1 = some (nI a) := by rw [← h1, ← hr 1 (by decide)]; exact m_ofK sa hS (by decide)
  have k2 : fX6_ofAct sa (nI S) 2 = some (nI t) := by rw [← h2, ← hr 2 (by decide)]; exact m_ofK sa hS (by decide)
  have k3 : fX6_ofAct sa (nI S) 3 = some (nI w) := by rw [← w3, ← hr 3 (by decide)]; exact m_ofK sa hS (by decide)
  have k6 : fX6_ofAct sa (nI S) 6 = some (gD r 6) := by rw [← hr 6 (by decide)]; exact m_ofK sa hS (by decide)
  rw [fX1_settleTop_J81, fX6_happen]
  simp only [k2, k3, k0, Option.bind_some, h1, h2, w3]
  by_cases z0 : gD r 0 = 0
  · rw [if_pos z0, if_pos z0]
    obtain ⟨es', ft', er', sa', x, c1, c2, c3, c4, -⟩ := g_harm h ht (hst (by rw [z0]; decide)) w2 hfu
    rw [c1, c3]
    simp only [Option.bind_some, c2]
    exact ⟨es', sk, ft', er', eb, st, sa', rfl, rfl, c4.mono (Nat.le_succ B), Nat.le_refl _⟩
  · rw [if_neg z0, if_neg z0]
    by_cases z1 : gD r 0 = 1
    · rw [if_pos z1, if_pos z1]
      obtain ⟨ft', sa', x, y, c1, c2, c3, c4, c5, -⟩ := g_heal h ht w2
      rw [c1]
      simp only [Option.bind_some, c2, c3]
      refine ⟨es, sk, ft', er, eb, st, sa', rfl, ?_, c5.mono (Nat.le_succ B), Nat.le_refl _⟩
      by_cases q : x + nI w ≤ y
      · rw [if_pos q] at c4 ⊢; rw [c4]; rfl
      · rw [if_neg q] at c4 ⊢; rw [c4]; rfl
    · rw [if_neg z1, if_neg z1]
      by_cases z2 : gD r 0 = 2
      · rw [if_pos z2, if_pos z2]
        obtain ⟨q, q1, q2, q3⟩ := h5 z2
        have key : ∀ (es1 : List Row) (er1 : Tab) (s1 : Nat → Int32), GI n es1 fl sk ft er1 eb li st rd tu la dl sh tb s1 B → (∀ q, 322 ≤ q → s1 q = sa q) → ∃ es' er' eb' sa', fX0_begin_J17 fu (gD r 4) (nI w) (nI a) (nI t) (gD r 5) (gD r 6) er1 eb (gD r 6 - gD r 6 / (2 : Int32) * (2 : Int32)) = some (er', eb') ∧ fX6_beginEffect_J27 fu (nI S) s1 (nI a) (gD r 6) = some sa' ∧ GI n es' fl sk ft er' eb' li st rd tu la dl sh tb sa' (B + 1) := by
          intro es1 er1 s1 hG1 ks
          have c : ∀ j, j < 7 → s1 (322 + 7 * S + j) = gD r j := fun j hj => (ks _ (by omega)).trans (hr j hj)
          obtain ⟨es', er', eb', sa', x1, x2, x3, -⟩ := g_begE (S := S) (nI a) (gD r 6) hG1 hS hB ⟨w, w4 z2, (c 3 (by decide)).trans w3⟩ ⟨q, q1, q2, (c 5 (by decide)).trans q3⟩ hfu
          rw [c 4 (by decide), c 3 (by decide), c 2 (by decide), c 5 (by decide), w3, h2] at x1
          exact ⟨es', er', eb', sa', x1, x2, x3⟩
        rw [fX0_begin, fX6_beginEffect]
        simp only [k1, k6, Option.bind_some]
        by_cases zh : (gD r 6 - gD r 6 / (2 : Int32) * (2 : Int32)) = (1 : Int32)
        · rw [if_pos zh, if_pos zh]
          obtain ⟨es1, er1, s1, d1, d2, d3, d4⟩ := g_stop (nI a) h ht hfu
          obtain ⟨es', er', eb', sa', x1, x2, x3⟩ := key es1 er1 s1 d3 d4
          rw [d1, d2]
          simp only [Option.bind_some, x1, x2]
          exact ⟨es', sk, ft, er', eb', st, sa', rfl, rfl, x3, Nat.le_refl _⟩
        · rw [if_neg zh, if_neg zh]
          obtain ⟨es', er', eb', sa', x1, x2, x3⟩ := key es er sa h (fun _ _ => rfl)
          simp only [Option.bind_some, x1, x2]
          exact ⟨es', sk, ft, er', eb', st, sa', rfl, rfl, x3, Nat.le_refl _⟩
      · rw [if_neg z2, if_neg z2]
        simp only [q8, g8, if_true]
        have h8 := h.2.2.2.2.2.2.2.1.1.1
        have hSt := h.1.2.2.2
        rcases List.eq_nil_or_concat sk with e | ⟨sk0, x, e⟩
        · subst e
          have h8 : sa 8 = 0 := h8
          rw [fX1_dropTop, t_count hSt]
          simp only [Option.bind_some]
          rw [t_remove_neg (show nI ([] : List Row).length - 1 < 0 by decide), if_pos (by rw [h8]; decide), upd_id (by rw [Int32.sub_zero])]
          exact ⟨es, [], ft, er, eb, st, sa, rfl, rfl, h.mono (Nat.le_succ B), Nat.le_refl _⟩
        · rw [List.concat_eq_append] at e
          subst e
          have h8 : sa 8 = nI (sk0.length + 1) := by rw [h8]; simp
          obtain ⟨st', c1, c2⟩ := g_pop h
          rw [c1, if_neg (by rw [h8]; exact nI_nle (by omega) (by have := h.2.2.2.2.2.2.2.1.1.2.1; simp at this; omega)), h8, nI_pred]
          exact ⟨es, sk0, ft, er, eb, st', _, rfl, rfl, c2.mono (Nat.le_succ B), by simp⟩
theorem g_step {n : Nat} {es : List Row} {fl : List Nat} {sk : List Row} {r : Row} {ft er : Tab} {eb : Int32} {li st : Tab} {rd tu la : Int32} {dl : Bool} {sh tb : Int32} {sa : Nat → Int32} {B fu : Nat} (h : GI n es fl (sk ++ [r]) ft er eb li st rd tu la dl sh tb sa B) (hfu : 2000 < fu) (hB : B < 2 ^ 30) :
    ∃ (b : Bool) (es' sk' : List Row) (ft' er' : Tab) (eb' : Int32) (st' : Tab) (sa' : Nat → Int32), fX1_settleTop fu ft er eb st sh = some (b, ft', er', eb', st') ∧ (∀ k v, fX6_settles_L2 fu (k + 1) sa v = fX6_settles_L2 fu k sa' (if b = true then v + 1 else v)) ∧ GI n es' fl sk' ft' er' eb' li st' rd tu la dl sh tb sa' (B + 1) ∧ sk'.length ≤ sk.length := by
  have hn := h.2.2.2.1.2
  have hSt := h.1.2.2.2
  have hKS := h.2.2.2.2.2.2.2.1
  have hlen := hKS.1.2.1
  simp at hlen
  have hS : sk.length < 8 := by omega
  have h8 : sa 8 = nI (sk.length + 1) := by rw [hKS.1.1]; simp
  have so := hKS.2 r (by simp)
  have hrr := (hKS.1.2.2 sk.length r (by simp)).2
  obtain ⟨⟨a, ha, h1⟩, ⟨t, ht, h2⟩, -⟩ := so
  have so := hKS.2 r (by simp)
  obtain ⟨st1, d1, hG⟩ := g_pop h
  generalize hs : upd sa 8 (nI sk.length) = s at hG
  have hr : ∀ j, j < 7 → s (322 + 7 * sk.length + j) = gD r j := fun j hj => by rw [← hs, pk_un (by omega)]; exact hrr j hj
  have hs8 : s 8 = nI sk.length := by rw [← hs, pk_us]
  have k0 : fX6_ofAct s (nI sk.length) 0 = some (gD r 0) := by rw [← hr 0 (by decide)]; exact m_ofK s hS (by decide)
  have k1 : fX6_ofAct s (nI sk.length) 1 = some (nI a) := by rw [← h1, ← hr 1 (by decide)]; exact m_ofK s hS (by decide)
  have k2 : fX6_ofAct s (nI sk.length) 2 = some (nI t) := by rw [← h2, ← hr 2 (by decide)]; exact m_ofK s hS (by decide)
  have c0 : fX1_aboutAct st 0 0 = some (gD r 0) := c_topAct hSt (show 0 < 7 by decide)
  have c1 : fX1_aboutAct st 0 1 = some (gD r 1) := c_topAct hSt (show 1 < 7 by decide)
  have c2 : fX1_aboutAct st 0 2 = some (gD r 2) := c_topAct hSt (show 2 < 7 by decide)
  have c3 : fX1_aboutAct st 0 3 = some (gD r 3) := c_topAct hSt (show 3 < 7 by decide)
  have c4 : fX1_aboutAct st 0 4 = some (gD r 4) := c_topAct hSt (show 4 < 7 by decide)
  have c5 : fX1_aboutAct st 0 5 = some (gD r 5) := c_topAct hSt (show 5 < 7 by decide)
  have c6 : fX1_aboutAct st 0 6 = some (gD r 6) := c_topAct hSt (show 6 < 7 by decide)
  have ca : fX1_stands ft (gD r 1) = some (stF s a) := by rw [h1]; exact c_stands hG.1.1 ha
  have ct : fX1_stands ft (gD r 2) = some (stF s t) := by rw [h2]; exact c_stands hG.1.1 ht
  have ma := m_stands' s (show a < 10 by omega)
  have mt := m_stands' s (show t < 10 by omega)
  have h8n : ¬ sa 8 ≤ 0 := by rw [h8]; exact nI_nle (by omega) (by omega)
  have hM : ∀ k v, fX6_settles_L2 fu (k + 1) sa v = (if bI (stF s a) = 0 then fX6_settles_L2 fu k s v else if gD r 0 = 3 then (fX6_happen fu s (nI sk.length)).bind fun x => fX6_settles_L2 fu k x (v + 1) else if bI (stF s t) = 0 then fX6_settles_L2 fu k s v else (fX6_happen fu s (nI sk.length)).bind fun x => fX6_settles_L2 fu k x (v + 1)) := by
    intro k v
    rw [fX6_settles_L2]
    simp only [q8, g8, if_true]
    rw [if_neg h8n, h8, nI_pred, hs]
    simp only [hs8, k1, k0, k2, ma, mt, Option.bind_some]
  have hC : fX1_settleTop fu ft er eb st sh = (if bI (stF s a) = 0 then some (false, ft, er, eb, st1) else if gD r 0 = 3 then fX1_settleTop_J81 fu sh ft er eb st1 (gD r 0) (gD r 1) (gD r 2) (gD r 3) (gD r 4) (gD r 5) (gD r 6) else if bI (stF s t) = 0 then some (false, ft, er, eb, st1) else fX1_settleTop_J81 fu sh ft er eb st1 (gD r 0) (gD r 1) (gD r 2) (gD r 3) (gD r 4) (gD r 5) (gD r 6)) := by
    rw [fX1_settleTop]
    simp only [c0, c1, c2, c3, c4, c5, c6, d1, ca, ct, Option.bind_some]
  have hno : ∃ (b : Bool) (es' sk' : List Row) (ft' er' : Tab) (eb' : Int32) (st' : Tab) (sa' : Nat → Int32), some (false, ft, er, eb, st1) = some (b, ft', er', eb', st') ∧ (∀ k v, fX6_settles_L2 fu k s v = fX6_settles_L2 fu k sa' (if b = true then v + 1 else v)) ∧ GI n es' fl sk' ft' er' eb' li st' rd tu la dl sh tb sa' (B + 1) ∧ sk'.length ≤ sk.length :=
    ⟨false, es, sk, ft, er, eb, st1, s, rfl, fun k v => rfl, hG.mono (Nat.le_succ B), Nat.le_refl _⟩
  have hyes : (gD r 0 ≠ 3 → stF s t = true) → ∃ (b : Bool) (es' sk' : List Row) (ft' er' : Tab) (eb' : Int32) (st' : Tab) (sa' : Nat → Int32), fX1_settleTop_J81 fu sh ft er eb st1 (gD r 0) (gD r 1) (gD r 2) (gD r 3) (gD r 4) (gD r 5) (gD r 6) = some (b, ft', er', eb', st') ∧ (∀ k v, ((fX6_happen fu s (nI sk.length)).bind fun x => fX6_settles_L2 fu k x (v + 1)) = fX6_settles_L2 fu k sa' (if b = true then v + 1 else v)) ∧ GI n es' fl sk' ft' er' eb' li st' rd tu la dl sh tb sa' (B + 1) ∧ sk'.length ≤ sk.length := by
    intro hst
    obtain ⟨es', sk', ft', er', eb', st', sa', x1, x2, x3, x4⟩ := g_happen hG hS hr so ht h2 hst hfu hB
    exact ⟨true, es', sk', ft', er', eb', st', sa', x1, fun k v => by rw [x2]; rfl, x3, x4⟩
  simp only [hM, hC]
  by_cases za : bI (stF s a) = 0
  · simp only [if_pos za]; exact hno
  · simp only [if_neg za]
    by_cases z3 : gD r 0 = 3
    · simp only [if_pos z3]; exact hyes (fun q => absurd z3 q)
    · simp only [if_neg z3]
      by_cases zt : bI (stF s t) = 0
      · simp only [if_pos zt]; exact hno
      · simp only [if_neg zt]
        refine hyes (fun _ => ?_)
        cases hx : stF s t with
        | true => rfl
        | false => rw [hx] at zt; exact absurd rfl zt
