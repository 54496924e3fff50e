/-! the digest -/
section DG
variable {n : Nat} {es : List Row} {fl : List Nat} {sk : List Row} {ft er : Tab} {eb : Int32} {li st : Tab} {rd tu la : Int32} {dl : Bool} {sh tb : Int32} {sa : Nat → Int32} {B fu : Nat} {sm ln th : Int32} {yc : Int32} {tx : Tab}
theorem m_take (h : Int64) (x : Int32) : fX6_take h x = some (((31 : Int64) * h) + x.toInt64) := rfl
theorem dg_f1 (h : GI n es fl sk ft er eb li st rd tu la dl sh tb sa B) (hfu : 2000 < fu) {i : Nat} (hi : i < n) : ∀ (d w k k' : Nat) (v : Int64), w + d = 9 → d < k → d < k' → ∃ v', fX5_withFighters_L20 fu ft er li k v (nI i) (nI w) = some (v', nI i) ∧ fX6_digest_L57 fu sa sm ln k' th v (nI i) (nI w) = some (th, v', nI i)
  | 0, w, k + 1, k' + 1, v, hd, hk, hk' => by
    have e : w = 9 := by omega
    subst e
    rw [fX5_withFighters_L20, if_pos (by decide), fX6_digest_L57, if_pos (by decide)]
    exact ⟨v, rfl, rfl⟩
  | d + 1, w, k + 1, k' + 1, v, hd, hk, hk' => by
    obtain ⟨x, x1, x2⟩ := g_about h hi hfu w (by omega)
    rw [fX5_withFighters_L20, if_neg (show ¬ (8 : Int32) < nI w from nI_nlt (a := 8) (by omega) (by decide)), fX6_digest_L57, if_neg (show ¬ (9 : Int32) ≤ nI w from nI_ge (b := 9) (by omega) (by decide)), x1, x2]
    simp only [Option.bind_some, m_take, nS]
    exact dg_f1 h hfu hi d (w + 1) k k' _ (by omega) (by omega) (by omega)
theorem dg_f (h : GI n es fl sk ft er eb li st rd tu la dl sh tb sa B) (hfu : 2000 < fu) : ∀ (d i k k' : Nat) (v : Int64), i + d = n → d < k → d < k' → ∃ v', fX5_withFighters_L5 fu ft er li k v (nI i) = some v' ∧ fX6_digest_L45 fu sa sm ln k' th v (nI i) = fX6_digest_L87 fu sa sm ln fu th v' 0
  | 0, i, k + 1, k' + 1, v, hd, hk, hk' => by
    have hn := h.2.2.2.1.2
    rw [fX5_withFighters_L5, fX6_digest_L45]
    simp only [fX1_fighterCount, h.1.1.cnt, q0, g0, if_true, h.2.2.2.1.1, Option.bind_some, if_pos (nle (show n ≤ i by omega) (by omega))]
    exact ⟨v, rfl, rfl⟩
  | d + 1, i, k + 1, k' + 1, v, hd, hk, hk' => by
    have hn := h.2.2.2.1.2
    have hi : i < n := by omega
    obtain ⟨x, x1, x2⟩ := dg_f1 (sm := sm) (ln := ln) (th := th) h hfu hi 9 0 fu fu v (by omega) (by omega) (by omega)
    have x1 : fX5_withFighters_L20 fu ft er li fu v (nI i) 0 = some (x, nI i) := x1
    have x2 : fX6_digest_L57 fu sa sm ln fu th v (nI i) 0 = some (th, x, nI i) := x2
    rw [fX5_withFighters_L5, fX6_digest_L45]
    simp only [fX1_fighterCount, h.1.1.cnt, q0, g0, if_true, h.2.2.2.1.1, Option.bind_some, if_neg (nge hi (by omega)), x1, x2, nS]
    exact dg_f h hfu d (i + 1) k k' _ (by omega) (by omega) (by omega)
theorem dg_e1 (h : GI n es fl sk ft er eb li st rd tu la dl sh tb sa B) {i : Nat} (hi : i < es.length) : ∀ (d w k k' : Nat) (v : Int64), w + d = 7 → d < k → d < k' → ∃ v', fX5_withEffects_L20 fu er k v (nI i) (nI w) = some (v', nI i) ∧ fX6_digest_L99 fu sa sm ln k' th v (nI i) (nI w) = some (th, v', nI i)
  | 0, w, k + 1, k' + 1, v, hd, hk, hk' => by
    have e : w = 7 := by omega
    subst e
    rw [fX5_withEffects_L20, if_pos (by decide), fX6_digest_L99, if_pos (by decide)]
    exact ⟨v, rfl, rfl⟩
  | d + 1, w, k + 1, k' + 1, v, hd, hk, hk' => by
    obtain ⟨x, x1, x2⟩ := g_aboutE h hi (show w < 8 by omega)
    rw [fX5_withEffects_L20, if_neg (show ¬ (6 : Int32) < nI w from nI_nlt (a := 6) (by omega) (by decide)), fX6_digest_L99, if_neg (show ¬ (7 : Int32) ≤ nI w from nI_ge (b := 7) (by omega) (by decide)), x1, x2]
    simp only [Option.bind_some, m_take, nS]
    exact dg_e1 h hi d (w + 1) k k' _ (by omega) (by omega) (by omega)
theorem dg_e (h : GI n es fl sk ft er eb li st rd tu la dl sh tb sa B) (hfu : 2000 < fu) : ∀ (d i k k' : Nat) (v : Int64), i + d = es.length → d < k → d < k' → ∃ v', fX5_withEffects_L5 fu er k v (nI i) = some v' ∧ fX6_digest_L87 fu sa sm ln k' th v (nI i) = fX6_digest_L129 fu sa sm ln fu th v' 0
  | 0, i, k + 1, k' + 1, v, hd, hk, hk' => by
    have hE : EC er es := h.1.2.1
    have hle := hE.le
    rw [fX5_withEffects_L5, fX6_digest_L87]
    simp only [fX1_effectCount, fX0_count, hE.cnt, q1, g1, if_true, h.2.2.2.2.1.1.1, Option.bind_some, if_pos (nle (show es.length ≤ i by omega) (by omega))]
    exact ⟨v, rfl, rfl⟩
  | d + 1, i, k + 1, k' + 1, v, hd, hk, hk' => by
    have hE : EC er es := h.1.2.1
    have hle := hE.le
    have hi : i < es.length := by omega
    obtain ⟨x, x1, x2⟩ := dg_e1 (fu := fu) (sm := sm) (ln := ln) (th := th) h hi 7 0 fu fu v (by omega) (by omega) (by omega)
    have x1 : fX5_withEffects_L20 fu er fu v (nI i) 0 = some (x, nI i) := x1
    have x2 : fX6_digest_L99 fu sa sm ln fu th v (nI i) 0 = some (th, x, nI i) := x2
    rw [fX5_withEffects_L5, fX6_digest_L87]
    simp only [fX1_effectCount, fX0_count, hE.cnt, q1, g1, if_true, h.2.2.2.2.1.1.1, Option.bind_some, if_neg (nge hi (by omega)), x1, x2, nS]
    exact dg_e h hfu d (i + 1) k k' _ (by omega) (by omega) (by omega)
theorem dg_k1 (h : GI n es fl sk ft er eb li st rd tu la dl sh tb sa B) {i : Nat} (hi : i < sk.length) : ∀ (d w k k' : Nat) (v : Int64), w + d = 4 → d < k → d < k' → ∃ v', fX5_withStack_L20 fu st k v (nI i) (nI w) = some (v', nI i) ∧ fX6_digest_L175 fu sa sm ln k' th v (nI (sk.length - 1 - i)) (nI w) = some (th, v', nI (sk.length - 1 - i))
  | 0, w, k + 1, k' + 1, v, hd, hk, hk' => by
    have e : w = 4 := by omega
    subst e
    rw [fX5_withStack_L20, if_pos (by decide), fX6_digest_L175, if_pos (by decide)]
    exact ⟨v, rfl, rfl⟩
  | d + 1, w, k + 1, k' + 1, v, hd, hk, hk' => by
    obtain ⟨x, x1, x2⟩ := g_aboutK h hi (show w < 7 by omega)
    rw [fX5_withStack_L20, if_neg (show ¬ (3 : Int32) < nI w from nI_nlt (a := 3) (by omega) (by decide)), fX6_digest_L175, if_neg (show ¬ (4 : Int32) ≤ nI w from nI_ge (b := 4) (by omega) (by decide)), x1, x2]
    simp only [Option.bind_some, m_take, nS]
    exact dg_k1 h hi d (w + 1) k k' _ (by omega) (by omega) (by omega)
theorem dg_k (h : GI n es fl sk ft er eb li st rd tu la dl sh tb sa B) (hfu : 2000 < fu) : ∀ (d i k k' : Nat) (v : Int64), i + d = sk.length → d < k → d < k' → ∃ v', fX5_withStack_L5 fu st k v (nI i) = some v' ∧ fX6_digest_L169 fu sa sm ln k' th v (nI d + (-1)) = some (((31 : Int64) * v') + sm.toInt64, th, ((31 : Int64) * v') + sm.toInt64)
  | 0, i, k + 1, k' + 1, v, hd, hk, hk' => by
    have hc := t_count h.1.2.2.2
    have hl := h.2.2.2.2.2.2.2.1.1.2.1
    rw [fX5_withStack_L5, fX6_digest_L169, if_pos (show nI 0 + (-1) < 0 by decide)]
    simp only [fX1_stackSize, hc, Option.bind_some, if_pos (nle (show sk.length ≤ i by omega) (by omega)), m_take]
    exact ⟨v, rfl, rfl⟩
  | d + 1, i, k + 1, k' + 1, v, hd, hk, hk' => by
    have hc := t_count h.1.2.2.2
    have hl := h.2.2.2.2.2.2.2.1.1.2.1
    have hi : i < sk.length := by omega
    obtain ⟨x, x1, x2⟩ := dg_k1 (fu := fu) (sm := sm) (ln := ln) (th := th) h hi 4 0 fu fu v (by omega) (by omega) (by omega)
    have x1 : fX5_withStack_L20 fu st fu v (nI i) 0 = some (x, nI i) := x1
    rw [show sk.length - 1 - i = d by omega] at x2
    have x2 : fX6_digest_L175 fu sa sm ln fu th v (nI d) 0 = some (th, x, nI d) := x2
    rw [fX5_withStack_L5, fX6_digest_L169, nP, if_neg (nI_pos (by omega))]
    simp only [fX1_stackSize, hc, Option.bind_some, if_neg (nge hi (by omega)), x1, x2, nS]
    exact dg_k h hfu d (i + 1) k k' _ (by omega) (by omega) (by omega)
theorem dg_l (h : GI n es fl sk ft er eb li st rd tu la dl sh tb sa B) (hfu : 2000 < fu) : ∀ (d i k k' : Nat) (v : Int64), i + d = fl.length → d < k → d < k' → ∃ v', fX5_digest_L57 fu ft er eb li st rd tu sh tb yc tx k v (nI i) = some (((31 : Int64) * v') + yc.toInt64) ∧ fX6_digest_L129 fu sa sm ln k' th v (nI i) = some (((31 : Int64) * v') + sm.toInt64, th, ((31 : Int64) * v') + sm.toInt64)
  | 0, i, k + 1, k' + 1, v, hd, hk, hk' => by
    have hL : LC li sa fl := h.1.2.2.1
    have hle := hL.le
    have hl := h.2.2.2.2.2.2.2.1.1.2.1
    obtain ⟨x, x1, x2⟩ := dg_k (sm := sm) (ln := ln) (th := th) h hfu sk.length 0 fu fu v (by omega) (by omega) (by omega)
    have x1 : fX5_withStack fu st v = some x := x1
    rw [fX5_digest_L57, fX6_digest_L129]
    simp only [fX1_listLength, hL.cnt, q6, g6, q8, g8, if_true, h.2.2.2.2.2.1.1.1, h.2.2.2.2.2.2.2.1.1.1, Option.bind_some, if_pos (nle (show fl.length ≤ i by omega) (by omega)), x1, nM, x2, fX2_size]
    exact ⟨x, rfl, rfl⟩
  | d + 1, i, k + 1, k' + 1, v, hd, hk, hk' => by
    have hL : LC li sa fl := h.1.2.2.1
    have hle := hL.le
    have hi : i < fl.length := by omega
    obtain ⟨f, f1, f2, f3⟩ := g_aboutL h hi
    have hcl : (nI (72 + i)).toNatClampNeg = 72 + i := nI_clamp (by omega)
    have hg : (¬ (nI (72 + i) < 0 ∨ 378 ≤ 72 + i)) = True := gT (by omega) (by decide)
    rw [fX5_digest_L57, fX6_digest_L129]
    simp only [fX1_listLength, hL.cnt, q6, g6, if_true, h.2.2.2.2.2.1.1.1, Option.bind_some, if_neg (nge hi (by omega)), f2, ofL, hcl, hg, f3, m_take, nS]
    exact dg_l h hfu d (i + 1) k k' _ (by omega) (by omega) (by omega)
theorem dg_n (h : GI n es fl sk ft er eb li st rd tu la dl sh tb sa B) (hfu : 2000 < fu) : ∀ (d i k k' : Nat) (v : Int64), i + d = 9 → d < k → d < k' → ∃ v', fX5_digest_L15 fu ft er eb li st rd tu sh tb yc tx k v (nI i) = some (((31 : Int64) * v') + yc.toInt64) ∧ fX6_digest_L22 fu sa sm ln k' th v (nI i) = some (((31 : Int64) * v') + sm.toInt64, th, ((31 : Int64) * v') + sm.toInt64)
  | 0, i, k + 1, k' + 1, v, hd, hk, hk' => by
    have e : i = 9 := by omega
    subst e
    have hn := h.2.2.2.1.2
    have hE : EC er es := h.1.2.1
    have hle := hE.le
    have hL : LC li sa fl := h.1.2.2.1
    have hll := hL.le
    obtain ⟨x, x1, x2⟩ := dg_f (sm := sm) (ln := ln) (th := th) h hfu n 0 fu fu v (by omega) (by omega) (by omega)
    obtain ⟨y, y1, y2⟩ := dg_e (sm := sm) (ln := ln) (th := th) h hfu es.length 0 fu fu x (by omega) (by omega) (by omega)
    obtain ⟨z, z1, z2⟩ := dg_l (sm := sm) (ln := ln) (th := th) (yc := yc) (tx := tx) h hfu fl.length 0 fu fu y (by omega) (by omega) (by omega)
    have x1 : fX5_withFighters fu ft er li v = some x := x1
    have y1 : fX5_withEffects fu er x = some y := y1
    rw [fX5_digest_L15, if_pos (by decide), fX6_digest_L22, if_pos (by decide), x1]
    simp only [Option.bind_some, y1]
    exact ⟨z, z1, x2.trans (y2.trans z2)⟩
  | d + 1, i, k + 1, k' + 1, v, hd, hk, hk' => by
    obtain ⟨x, x1, x2⟩ := g_number h hfu i (by omega)
    rw [fX5_digest_L15, if_neg (show ¬ (8 : Int32) < nI i from nI_nlt (a := 8) (by omega) (by decide)), fX6_digest_L22, if_neg (show ¬ (9 : Int32) ≤ nI i from nI_ge (b := 9) (by omega) (by decide)), x1, x2]
    simp only [Option.bind_some, m_take, nS]
    exact dg_n h hfu d (i + 1) k k' _ (by omega) (by omega) (by omega)
end DG
theorem sim_digest {fu : Nat} (hfu : 2000 < fu) : Sim_digest fu Inv := by
  intro n c mo hI
  have hI0 := hI
  obtain ⟨B, hB, hG, hZ, hH, hT, hC⟩ := hI
  obtain ⟨m, es, fl, sk, h⟩ := hG
  obtain ⟨bs, t1, t2, -⟩ := hT
  have tc := t_count t1
  rw [List.length_map] at tc
  obtain ⟨k, -, k2, k3, -⟩ := hH
  obtain ⟨v, v1, v2⟩ := dg_n (fu := fu) (sm := mo.sm) (ln := mo.ln) (th := 0) (yc := c.yc) (tx := c.tx) h hfu 9 0 fu fu ((103633 : Int64) + (nI bs.length).toInt64) (by omega) (by omega) (by omega)
  refine ⟨_, (((31 : Int64) * v) + mo.sm.toInt64, 0, ((31 : Int64) * v) + mo.sm.toInt64), ?_, ?_, rfl, inv_stay hI0 _ _ _ _ _ _ _⟩
  · rw [fX5_digest, fX3_length, tc]
    simp only [Option.bind_some]
    rw [k3, ← k2]
    exact v1
  · rw [fX6_digest, m_take]
    simp only [Option.bind_some]
    rw [show (31 : Int64) * 3343 = 103633 from rfl, t2]
    rw [t2] at v2
    exact v2
