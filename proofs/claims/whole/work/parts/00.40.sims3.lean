/-! what if, text: call by call -/
theorem inv_put {k : Nat} {ft er : Tab} {eb : Int32} {li st : Tab} {rd tu la : Int32} {dl : Bool} {sh tb : Int32} {zft zer : Tab} {zeb : Int32} {zli zst : Tab} {zrd ztu zla : Int32} {zdl : Bool} {zsh ztb yc : Int32} {yp : Nat → Nat} {yg : Nat → GV} {tx cm : Tab} {th : Int32} {sa asd sv : Nat → Int32} {sm : Int32} {mt : Nat → Int32} {ln nx cd dg pw : Int32} {hs : Int64} (B : Nat) (hB : B + 1000 * k ≤ 600000) (hG : GR ft er eb li st rd tu la dl sh tb sa B) (hZ : GZ zft zer zli zst) (hH : HI yc yp yg sv sm B) (hT : TX tx mt ln) (hC : TZ 3 60 cm) :
    Inv k ((ft, er, eb, li, st, rd, tu, la, dl, sh, tb, zft, zer, zeb, zli, zst, zrd, ztu, zla, zdl, zsh, ztb, yc, yp, yg, tx, cm) : CS) ((th, sa, asd, sv, sm, mt, ln, nx, cd, dg, pw, hs) : MS) := ⟨B, hB, hG, hZ, hH, hT, hC⟩
theorem sim_upcoming {fu : Nat} (hfu : 2000 < fu) : Sim_upcoming fu Inv := by
  intro n c mo p1 hI
  have hI0 := hI
  obtain ⟨B, hB, hG, hZ, hH, hT, hC⟩ := hI
  obtain ⟨m, es, fl, sk, h⟩ := hG
  have hm := h.2.2.2.1.2
  have e0 : mo.sa 0 = nI m := h.2.2.2.1.1
  cases h2 : inB p1 0 40 with
  | false =>
    refine ⟨.inl "java/lang/IllegalArgumentException", (0, 1, mo.sa, mo.asd), ?_, ?_, ?_, ?_, ?_, inv_stay hI0 _ _ _ _ _ _ _⟩
    · simp only [fX5_upcoming, c_within, m_in, fX6_fails, Option.bind_some, Sum.elim_inl, Sum.elim_inr, bIf, bIt, if_true, if_false, bft, btt, reqW, h2]
    · intro E hE; cases hE; exact rfl
    · simp only [fX6_upcoming, c_within, m_in, fX6_fails, Option.bind_some, Sum.elim_inl, Sum.elim_inr, bIf, bIt, if_true, if_false, bft, btt, h2]
    · rw [Sum.elim_inl, if_pos rfl]
    · intro u hu; cases hu
  | true =>
    obtain ⟨i, -, i2, rfl⟩ := inB_r (a := 0) (b := 40) h2 (by decide) (by decide)
    obtain ⟨ft1, er1, li1, st1, c1, hA⟩ := g_copy c.zeb c.zrd c.ztu c.zla c.zdl c.zsh c.ztb h hZ
    obtain ⟨a1, m1, m2⟩ := m_hold (fu := fu) mo.sa mo.asd hfu
    obtain ⟨er2, st2, sa2, es2, c2, m3, g2⟩ := g_abandon hA hfu
    obtain ⟨r, es3, fl3, ft3, er3, li3, rd3, la3, dl3, tb3, sa3, c3, m4, g3, hr⟩ := g_pass g2 rfl hfu (by omega)
    obtain ⟨fu0, hfu0⟩ : ∃ x, fu = x + 1 := ⟨fu - 1, by omega⟩
    obtain ⟨r4, ft4, er4, li4, rd4, la4, dl4, tb4, sa4, c4, m5, z4, m6⟩ := up_L (oft := c.ft) (oer := c.er) (oeb := c.eb) (oli := c.li) (ost := c.st) (ord := c.rd) (otu := c.tu) (ola := c.la) (odl := c.dl) (osh := c.sh) (otb := c.tb) hfu (i := i) (by omega) (asd := a1) (th := 0) i 0 fu0 fu es3 fl3 ft3 er3 c.eb li3 st2 rd3 la3 dl3 c.sh tb3 sa3 (B + 1) r (by omega) (by omega) (by omega) g3 (fun q => by
      rcases hr with ⟨-, w, -⟩ | ⟨f, w, w2, -⟩
      · exact w
      · exact absurd (w.symm.trans q) (nI_m1 (by omega))) (by omega)
    have hC1 : fX5_upcoming_L29 fu c.ft c.er c.eb c.li c.st c.rd c.tu c.la c.dl c.sh c.tb (nI i) fu ft1 er2 c.eb li1 st2 c.rd (-1) c.la c.dl c.sh c.tb (-1) 0 = some (.inr (r4, ft4, er4, c.eb, li4, st2, rd4, -1, la4, dl4, c.sh, tb4)) := by
      have : fX5_upcoming_L29 fu c.ft c.er c.eb c.li c.st c.rd c.tu c.la c.dl c.sh c.tb (nI i) (fu0 + 1) ft1 er2 c.eb li1 st2 c.rd (-1) c.la c.dl c.sh c.tb (-1) 0 = some (.inr (r4, ft4, er4, c.eb, li4, st2, rd4, -1, la4, dl4, c.sh, tb4)) := by
        rw [fX5_upcoming_L29, if_neg (show ¬ nI i < 0 from nI_pos (by omega)), c3]
        exact c4
      rw [← hfu0] at this
      exact this
    have m5 : fX6_upcoming_L36 fu (nI i) fu 0 sa3 a1 r 0 = some (r4, 0, sa4, a1) := m5
    refine ⟨.inr (r4, ft4, er4, c.eb, li4, st2, rd4, -1, la4, dl4, c.sh, tb4), (r4, 0, sa4, a1), ?_, ?_, ?_, rfl, ?_, ?_⟩
    · simp only [fX5_upcoming, c_within, m_in, fX6_fails, Option.bind_some, Sum.elim_inl, Sum.elim_inr, bIf, bIt, if_true, if_false, bft, btt, reqW, h2, c1, c2, hC1]
    · intro E hE; cases hE
    · simp only [fX6_upcoming, c_within, m_in, fX6_fails, Option.bind_some, Sum.elim_inl, Sum.elim_inr, bIf, bIt, if_true, if_false, bft, btt, h2, m1, m3, m4, m5]
    · intro u hu; cases hu; rfl
    · exact inv_put B (by omega) (GR.cong ⟨m, es, fl, sk, h⟩ (fun q hq => (m6 q hq).trans (m2 q hq))) z4 hH hT hC
theorem sim_goneAfter {fu : Nat} (hfu : 2000 < fu) : Sim_goneAfter fu Inv := by
  intro n c mo p1 hI
  have hI0 := hI
  obtain ⟨B, hB, hG, hZ, hH, hT, hC⟩ := hI
  obtain ⟨m, es, fl, sk, h⟩ := hG
  have hm := h.2.2.2.1.2
  have e0 : mo.sa 0 = nI m := h.2.2.2.1.1
  have hE : EC c.er es := h.1.2.1
  have hM := h.2.2.2.2.1.1
  have e1 : mo.sa 1 = nI es.length := hM.1
  have hle := hE.le
  cases h1 : inB p1 0 (nI es.length - 1) with
  | false =>
    refine ⟨.inl "java/lang/IndexOutOfBoundsException", (0, 1, mo.sa, mo.asd), ?_, ?_, ?_, ?_, ?_, inv_stay hI0 _ _ _ _ _ _ _⟩
    · simp only [fX5_goneAfter, c_within, m_in, fX6_fails, Option.bind_some, Sum.elim_inl, Sum.elim_inr, bIf, bIt, if_true, if_false, bft, btt, fX5_requireEffect, fX1_effectCount, fX0_count, hE.cnt, h1]
    · intro E hE; cases hE; exact rfl
    · simp only [fX6_goneAfter, c_within, m_in, fX6_fails, Option.bind_some, Sum.elim_inl, Sum.elim_inr, bIf, bIt, if_true, if_false, bft, btt, q1, g1, e1, h1]
    · rw [Sum.elim_inl, if_pos rfl]
    · intro u hu; cases hu
  | true =>
    obtain ⟨a, ha, rfl⟩ := inB_ix h1 (by omega)
    have hr := List.getElem?_eq_getElem ha
    have b7 : fX1_birthOf c.er (nI a) = some (gD es[a] 7) := by rw [fX1_birthOf, fX0_birthOf, show fX4_at c.er (nI a) (7 : Int32) = _ from hE.at hr (show 7 < 8 by decide)]; rfl
    have m7 : fX6_ofEffect mo.sa (nI a) 7 = some (gD es[a] 7) := hM.at hr (show 7 < 8 by decide)
    obtain ⟨ft1, er1, li1, st1, c1, hA⟩ := g_copy c.zeb c.zrd c.ztu c.zla c.zdl c.zsh c.ztb h hZ
    obtain ⟨a1, m1, m2⟩ := m_hold (fu := fu) mo.sa mo.asd hfu
    obtain ⟨er2, st2, sa2, es2, c2, m3, g2⟩ := g_abandon hA hfu
    obtain ⟨r4, ft4, er4, li4, rd4, la4, dl4, tb4, sa4, c4, m5, z4, m6⟩ := gone_L (oft := c.ft) (oer := c.er) (oeb := c.eb) (oli := c.li) (ost := c.st) (ord := c.rd) (otu := c.tu) (ola := c.la) (odl := c.dl) (osh := c.sh) (otb := c.tb) hfu (b := gD es[a] 7) (asd := a1) (th := 0) 60 0 fu fu es2 fl ft1 er2 c.eb li1 st2 c.rd c.la c.dl c.sh c.tb sa2 B (by omega) (by omega) (by omega) g2 (by omega)
    have c4 : fX5_goneAfter_L34 fu c.ft c.er c.eb c.li c.st c.rd c.tu c.la c.dl c.sh c.tb fu ft1 er2 c.eb li1 st2 c.rd (-1) c.la c.dl c.sh c.tb (gD es[a] 7) 0 = some (.inr (r4, ft4, er4, c.eb, li4, st2, rd4, -1, la4, dl4, c.sh, tb4)) := c4
    have m5 : fX6_goneAfter_L48 fu fu 0 sa2 a1 (gD es[a] 7) 0 true = some (r4, 0, sa4, a1) := m5
    refine ⟨.inr (r4, ft4, er4, c.eb, li4, st2, rd4, -1, la4, dl4, c.sh, tb4), (r4, 0, sa4, a1), ?_, ?_, ?_, rfl, ?_, ?_⟩
    · simp only [fX5_goneAfter, c_within, m_in, fX6_fails, Option.bind_some, Sum.elim_inl, Sum.elim_inr, bIf, bIt, if_true, if_false, bft, btt, fX5_requireEffect, fX1_effectCount, fX0_count, hE.cnt, h1, b7, c1, c2, c4]
    · intro E hE; cases hE
    · simp only [fX6_goneAfter, c_within, m_in, fX6_fails, Option.bind_some, Sum.elim_inl, Sum.elim_inr, bIf, bIt, if_true, if_false, bft, btt, q1, g1, e1, h1, m7, m1, m3, m5]
    · intro u hu; cases hu; rfl
    · exact inv_put B (by omega) (GR.cong ⟨m, es, fl, sk, h⟩ (fun q hq => (m6 q hq).trans (m2 q hq))) z4 hH hT hC
theorem sim_lifeSettled {fu : Nat} (hfu : 2000 < fu) : Sim_lifeSettled fu Inv := by
  intro n c mo hI
  have hI0 := hI
  obtain ⟨B, hB, hG, hZ, hH, hT, hC⟩ := hI
  obtain ⟨m, es, fl, sk, h⟩ := hG
  have hm := h.2.2.2.1.2
  have e0 : mo.sa 0 = nI m := h.2.2.2.1.1
  obtain ⟨ft1, er1, li1, st1, c1, hA⟩ := g_copy c.zeb c.zrd c.ztu c.zla c.zdl c.zsh c.ztb h hZ
  obtain ⟨a1, m1, m2⟩ := m_hold (fu := fu) mo.sa mo.asd hfu
  obtain ⟨k, es2, ft2, er2, eb2, st2, tu2, sa2, c2, m3, k8, g2⟩ := g_settle hA hfu (by omega)
  obtain ⟨s, c3, m4, -, -⟩ := g_liv (fu := fu) g2 (p := 2) (Or.inr rfl) hfu
  have c3 : fX1_total fu ft2 2 = some (nI s) := c3
  have m4 : fX6_lives fu sa2 2 = some (nI s) := m4
  obtain ⟨a2, m5, m6⟩ := m_rel (fu := fu) sa2 a1 hfu
  have hk : (0 : Int32) ≤ nI k := nI_pos' (by omega)
  refine ⟨(nI s, ft2, er2, eb2, li1, st2, c.rd, tu2, c.la, c.dl, c.sh, c.tb), (nI s, 0, a2, a1), ?_, ?_, rfl, inv_put B (by omega) (GR.cong ⟨m, es, fl, sk, h⟩ (fun q hq => (m6 q hq).trans (m2 q hq))) g2.z hH hT hC⟩
  · simp only [fX5_lifeSettled, c1, c2, fX1_lives, c3, Option.bind_some]
  · simp only [fX6_lifeSettled, m1, m3, hk, if_true, m4, m5, Option.bind_some]
theorem sim_vigor {fu : Nat} (hfu : 2000 < fu) : Sim_vigor fu Inv := by
  intro n c mo hI
  have hI0 := hI
  obtain ⟨B, hB, hG, hZ, hH, hT, hC⟩ := hI
  obtain ⟨m, es, fl, sk, h⟩ := hG
  have hm := h.2.2.2.1.2
  have e0 : mo.sa 0 = nI m := h.2.2.2.1.1
  obtain ⟨s1, c1, m1, b1, b2⟩ := g_liv (fu := fu) h (p := 1) (Or.inl rfl) hfu
  obtain ⟨s2, c2, m2, b3, -⟩ := g_liv (fu := fu) h (p := 2) (Or.inr rfl) hfu
  have c1 : fX1_total fu c.ft 1 = some (nI s1) := c1
  have m1 : fX6_lives fu mo.sa 1 = some (nI s1) := m1
  have c2 : fX1_total fu c.ft 2 = some (nI s2) := c2
  have m2 : fX6_lives fu mo.sa 2 = some (nI s2) := m2
  have b4 := b2 rfl
  by_cases z : s1 = 0
  · have hmz : m = 0 := by omega
    have h0 : nI m = 0 := by rw [hmz]; rfl
    refine ⟨FP.dconst0, (FP.dconst0, 0), ?_, ?_, rfl, inv_stay hI0 _ _ _ _ _ _ _⟩
    · simp only [fX5_vigor, fX1_firstLives, c1, Option.bind_some]
      rw [if_pos ((f_cmp (by omega)).mpr z)]
    · simp only [fX6_vigor, q0, g0, if_true, e0, h0]
  · have hm0 : m ≠ 0 := fun q => by rw [q] at b1; omega
    have h0 : ¬ nI m = 0 := nI_ne0 (by omega) (by omega)
    obtain ⟨t1, d1, r1, x1, x2⟩ := f_num (s := s1) (by omega)
    obtain ⟨t2, d2, r2, y1, -⟩ := f_num (s := s2) (by omega)
    have hd := n_ddiv y1 x1 (x2 (by omega))
    refine ⟨FP.ddiv (FP.i2d (nI s2)) (FP.i2d (nI s1)), (FP.ddiv (FP.i2d (nI s2)) (FP.i2d (nI s1)), 0), ?_, ?_, rfl, inv_stay hI0 _ _ _ _ _ _ _⟩
    · simp only [fX5_vigor, fX1_firstLives, fX1_lives, c1, c2, Option.bind_some]
      rw [if_neg (fun q => z ((f_cmp (by omega)).mp q)), if_pos hd]
    · simp only [fX6_vigor, q0, g0, if_true, e0, m1, m2, Option.bind_some]
      rw [if_neg h0, if_pos hd]
theorem sim_append {fu : Nat} (hfu : 2000 < fu) : Sim_append fu Inv := by
  intro n c mo p1 hI
  have hI0 := hI
  obtain ⟨B, hB, hG, hZ, hH, hT, hC⟩ := hI
  obtain ⟨m, es, fl, sk, h⟩ := hG
  have hm := h.2.2.2.1.2
  have e0 : mo.sa 0 = nI m := h.2.2.2.1.1
  have hT0 := hT
  obtain ⟨bs, t1, t2, t3, t4⟩ := hT
  have tl := t1.2.2.2.1
  rw [List.length_map] at tl
  have tc := t_count t1
  rw [List.length_map] at tc
  cases h1 : inB p1 0 127 with
  | false =>
    refine ⟨.inl "java/lang/IllegalArgumentException", (0, 1, mo.mt, mo.ln), ?_, ?_, ?_, ?_, ?_, inv_stay hI0 _ _ _ _ _ _ _⟩
    · simp only [fX5_append, c_within, m_in, fX6_fails, Option.bind_some, Sum.elim_inl, Sum.elim_inr, bIf, bIt, if_true, if_false, bft, btt, reqW, h1]
    · intro E hE; cases hE; exact Or.inl rfl
    · simp only [fX6_append, c_within, m_in, fX6_fails, Option.bind_some, Sum.elim_inl, Sum.elim_inr, bIf, bIt, if_true, if_false, bft, btt, h1]
    · rw [Sum.elim_inl, if_pos rfl]
    · intro u hu; cases hu
  | true =>
    obtain ⟨v, -, v2, rfl⟩ := inB_r (a := 0) (b := 127) h1 (by decide) (by decide)
    by_cases h2 : bs.length = 120
    · have y1 : (120 : Int32) ≤ nI bs.length := nI_le (a := 120) (by omega) (by omega)
      have y2 : nI bs.length = 120 := by rw [h2]; rfl
      refine ⟨.inl "java/lang/IllegalStateException", (0, 2, mo.mt, mo.ln), ?_, ?_, ?_, ?_, ?_, inv_stay hI0 _ _ _ _ _ _ _⟩
      · simp only [fX5_append, c_within, m_in, fX6_fails, Option.bind_some, Sum.elim_inl, Sum.elim_inr, bIf, bIt, if_true, if_false, bft, btt, reqW, h1, fX3_length, tc, y1, reqP]
      · intro E hE; cases hE; exact Or.inr (rfl)
      · simp only [fX6_append, c_within, m_in, fX6_fails, Option.bind_some, Sum.elim_inl, Sum.elim_inr, bIf, bIt, if_true, if_false, bft, btt, h1, t2, y2]
      · rw [Sum.elim_inl, if_neg (by decide), if_pos rfl]
      · intro u hu; cases hu
    · have y1 : ¬ (120 : Int32) ≤ nI bs.length := nI_ge (b := 120) (by omega) (by omega)
      have y2 : ¬ nI bs.length = 120 := fun q => by have := (nI_inj (b := 120) (by omega) (by decide)).mp q; omega
      obtain ⟨x1, a1, a2⟩ := t_push (fu := fu) t1 d1 (by rw [List.length_map]; omega) (by omega)
      obtain ⟨x2, b1, b2⟩ := t_ptop (v := nI v) a2 d1 (show 0 < 1 by decide)
      rw [List.length_map] at a1 b1
      have b1 : fX4_put x1 (nI bs.length) 0 (nI v) = some x2 := b1
      have b2 : TL 1 120 x2 ((bs ++ [nI v]).map (fun b => [b])) := by rw [List.map_append]; exact b2
      have bc := t_count b2
      rw [List.length_map, List.length_append, List.length_singleton] at bc
      have hcl : (nI bs.length).toNatClampNeg = bs.length := nI_clamp (by omega)
      have hg : (¬ (nI bs.length < 0 ∨ 120 ≤ bs.length)) = True := gT (by omega) (by decide)
      have hnew : ∀ (i : Nat) (b : Int32), (bs ++ [nI v])[i]? = some b → upd mo.mt bs.length (nI v) i = b := fun i b hb => by
        rcases Nat.lt_or_ge i bs.length with q | q
        · rw [List.getElem?_append_left q] at hb
          rw [pk_un (by omega)]; exact t3 i b hb
        · have hil := tl_lt hb
          rw [List.length_append, List.length_singleton] at hil
          have e : i = bs.length := by omega
          subst e
          rw [List.getElem?_append_right (Nat.le_refl _), Nat.sub_self] at hb
          rw [pk_us]; exact Option.some.inj hb
      have hall : ∀ b, b ∈ bs ++ [nI v] → ∃ j, j < 128 ∧ b = nI j := fun b hb => by
        rcases List.mem_append.mp hb with q | q
        · exact t4 b q
        · exact ⟨v, by omega, List.mem_singleton.mp q⟩
      refine ⟨.inr (nI (bs.length + 1), x2), (nI (bs.length + 1), 0, upd mo.mt bs.length (nI v), nI (bs.length + 1)), ?_, ?_, ?_, rfl, ?_, ?_⟩
      · simp only [fX5_append, c_within, m_in, fX6_fails, Option.bind_some, Sum.elim_inl, Sum.elim_inr, bIf, bIt, if_true, if_false, bft, btt, reqW, h1, fX3_length, tc, y1, reqP, fX3_lengthen, a1, b1, bc]
      · intro E hE; cases hE
      · simp only [fX6_append, c_within, m_in, fX6_fails, Option.bind_some, Sum.elim_inl, Sum.elim_inr, bIf, bIt, if_true, if_false, bft, btt, h1, t2, y2, hcl, hg, nS]
      · intro u hu; cases hu; rfl
      · exact inv_put B (by omega) ⟨m, es, fl, sk, h⟩ hZ hH ⟨bs ++ [nI v], b2, by rw [List.length_append, List.length_singleton], hnew, hall⟩ hC
theorem sim_clearText {fu : Nat} (hfu : 2000 < fu) : Sim_clearText fu Inv := by
  intro n c mo hI
  have hI0 := hI
  obtain ⟨B, hB, hG, hZ, hH, hT, hC⟩ := hI
  obtain ⟨m, es, fl, sk, h⟩ := hG
  have hm := h.2.2.2.1.2
  have e0 : mo.sa 0 = nI m := h.2.2.2.1.1
  obtain ⟨bs, t1, t2, t3, t4⟩ := hT
  have tc := t_count t1
  rw [List.length_map] at tc
  obtain ⟨x, a1, a2⟩ := t_clear t1
  refine ⟨(nI bs.length, x), (nI bs.length, 0, 0), ?_, ?_, rfl, inv_put B (by omega) ⟨m, es, fl, sk, h⟩ hZ hH ⟨[], a2, rfl, fun i b hb => by simp at hb, fun b hb => by cases hb⟩ hC⟩
  · simp only [fX5_clearText, fX3_wipe, tc, a1, Option.bind_some]
  · rw [fX6_clearText, t2]
