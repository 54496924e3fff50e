/-! all commands -/
def GoodL (mt : Nat → Int32) (n : Nat) : List Row → Nat → Prop
  | [], i => i = n
  | row :: t, i => ∃ j, i + 2 ≤ j ∧ j ≤ n ∧ MdYes mt n i j row ∧ GoodL mt n t j
theorem read_all {fu : Nat} {tx : Tab} {mt : Nat → Int32} {bs : List Int32} {sa asd sv : Nat → Int32} {sm : Int32} (h : TT tx mt bs) (hfu : 2000 < fu) : ∀ (m i : Nat) (rows : List Row) (cm : Tab) (k : Nat), bs.length - i ≤ m → i ≤ bs.length → 2 * rows.length ≤ i → TL 3 60 cm rows → bs.length - i + 9 < k →
    (∃ j cm', j ≤ bs.length ∧ fX3_read_L11 fu tx k cm 0 (nI i) = some (nI j, cm') ∧ TZ 3 60 cm' ∧ ∀ k' c0 d0 p0, m + 1 < k' → ∃ cd dg pw, fX6_carryOut_L12 fu mt (nI bs.length) k' 0 sa asd sv sm (nI i) c0 d0 p0 true = some ((-10 : Int32) - nI j, 0, sa, asd, sv, sm, nI j, cd, dg, pw)) ∨
    ∃ t cm', fX3_read_L11 fu tx k cm 0 (nI i) = some (-1, cm') ∧ TL 3 60 cm' (rows ++ t) ∧ GoodL mt bs.length t i ∧ ∀ k' c0 d0 p0, m + 1 < k' → ∃ nx cd dg pw, fX6_carryOut_L12 fu mt (nI bs.length) k' 0 sa asd sv sm (nI i) c0 d0 p0 true = fX6_carryOut_J35 fu mt (nI bs.length) 0 sa asd sv sm nx cd dg pw true := by
  have hl := h.len
  intro m
  induction m with
  | zero =>
    intro i rows cm k hm hi hr hcm hk
    have e : i = bs.length := by omega
    subst e
    obtain ⟨k, rfl⟩ : ∃ x, k = x + 1 := ⟨k - 1, by omega⟩
    refine Or.inr ⟨[], cm, c_end h, by rw [List.append_nil]; exact hcm, rfl, fun k' c0 d0 p0 hk' => ?_⟩
    obtain ⟨k', rfl⟩ : ∃ x, k' = x + 1 := ⟨k' - 1, by omega⟩
    refine ⟨nI bs.length, c0, d0, p0, ?_⟩
    rw [fX6_carryOut_L12, if_neg bI_t, if_pos (nle (Nat.le_refl _) (by omega))]
  | succ m ih =>
    intro i rows cm k hm hi hr hcm hk
    rcases Nat.lt_or_ge i bs.length with hlt | hge
    · rcases cmd_read (fu := fu) h hlt hr hfu with ⟨j, j1, j2, j3⟩ | ⟨j, row, j1, j2, j3, j4⟩
      · obtain ⟨cm', c1, c2⟩ := j3 k cm (by omega) hcm
        refine Or.inl ⟨j, cm', j1, c1, c2, fun k' c0 d0 p0 hk' => ?_⟩
        obtain ⟨k', rfl⟩ : ∃ x, k' = x + 1 + 1 := ⟨k' - 2, by omega⟩
        obtain ⟨cd, dg, pw, e⟩ := j2 c0 d0 p0
        refine ⟨cd, dg, pw, ?_⟩
        rw [fX6_carryOut_L12, if_neg bI_t, if_neg (nge hlt (by omega)), e]
        simp only [Option.bind_some]
        rw [fX6_carryOut_L12, if_pos bI_ff, fX6_carryOut_J35, if_pos bI_ff]
      · obtain ⟨cm1, c1, c2⟩ := j4 (k - (j - i)) cm hcm
        rw [show k - (j - i) + (j - i) = k by omega] at c1
        have step : ∀ k' c0 d0 p0, ∃ dg pw, fX6_carryOut_L12 fu mt (nI bs.length) (k' + 1) 0 sa asd sv sm (nI i) c0 d0 p0 true = fX6_carryOut_L12 fu mt (nI bs.length) k' 0 sa asd sv sm (nI j) (gD row 0) dg pw true := fun k' c0 d0 p0 => by
          obtain ⟨dg, pw, e, -⟩ := j3 c0 d0 p0
          refine ⟨dg, pw, ?_⟩
          rw [fX6_carryOut_L12, if_neg bI_t, if_neg (nge hlt (by omega)), e]
          simp only [Option.bind_some]
        rcases ih j (rows ++ [row]) cm1 (k - (j - i)) (by omega) j2 (by simp; omega) c2 (by omega) with ⟨j', cm', a1, a2, a3, a4⟩ | ⟨t, cm', a1, a2, a3, a4⟩
        · refine Or.inl ⟨j', cm', a1, c1.trans a2, a3, fun k' c0 d0 p0 hk' => ?_⟩
          obtain ⟨k', rfl⟩ : ∃ x, k' = x + 1 := ⟨k' - 1, by omega⟩
          obtain ⟨dg, pw, e⟩ := step k' c0 d0 p0
          rw [e]
          exact a4 k' _ dg pw (by omega)
        · refine Or.inr ⟨row :: t, cm', c1.trans a1, by rw [List.append_assoc] at a2; exact a2, ⟨j, j1, j2, j3, a3⟩, fun k' c0 d0 p0 hk' => ?_⟩
          obtain ⟨k', rfl⟩ : ∃ x, k' = x + 1 := ⟨k' - 1, by omega⟩
          obtain ⟨dg, pw, e⟩ := step k' c0 d0 p0
          rw [e]
          exact a4 k' _ dg pw (by omega)
    · have e : i = bs.length := by omega
      subst e
      obtain ⟨k, rfl⟩ : ∃ x, k = x + 1 := ⟨k - 1, by omega⟩
      refine Or.inr ⟨[], cm, c_end h, by rw [List.append_nil]; exact hcm, rfl, fun k' c0 d0 p0 hk' => ?_⟩
      obtain ⟨k', rfl⟩ : ∃ x, k' = x + 1 := ⟨k' - 1, by omega⟩
      refine ⟨nI bs.length, c0, d0, p0, ?_⟩
      rw [fX6_carryOut_L12, if_neg bI_t, if_pos (nle (Nat.le_refl _) (by omega))]
theorem cm_rows {cm : Tab} {rows : List Row} {c : Nat} {row : Row} (h : TL 3 60 cm rows) (hc : rows[c]? = some row) : fX4_at cm (nI c) 0 = some (gD row 0) ∧ fX4_at cm (nI c) 1 = some (gD row 1) ∧ fX4_at cm (nI c) 2 = some (gD row 2) :=
  ⟨t_at h d3 hc (show 0 < 3 by decide), t_at h d3 hc (show 1 < 3 by decide), t_at h d3 hc (show 2 < 3 by decide)⟩
theorem carry2 {fu : Nat} {tx cm : Tab} {mt : Nat → Int32} {n : Nat} {rows : List Row} {gft ger : Tab} {geb : Int32} {gli gst : Tab} {grd gtu gla : Int32} {gdl : Bool} {gsh gtb : Int32} {yc : Int32} {yp : Nat → Nat} {yg : Nat → GV} {sv asd : Nat → Int32} {sm th : Int32} {B0 : Nat} (hfu : 2000 < fu) (hn : n ≤ 120) (hcm : TL 3 60 cm rows)
    (hG : GR gft ger geb gli gst grd gtu gla gdl gsh gtb asd B0) (hH : HI yc yp yg sv sm B0) : ∀ (t : List Row) (c i k k' B : Nat) (ft er : Tab) (eb : Int32) (li st : Tab) (rd tu la : Int32) (dl : Bool) (sh tb : Int32) (s : Nat → Int32) (cd dg pw : Int32), rows.drop c = t → c ≤ rows.length → GoodL mt n t i → GR ft er eb li st rd tu la dl sh tb s B → t.length < k → t.length < k' → B0 ≤ B → B + 8 * t.length < 2 ^ 30 →
    ∃ o ft1 er1 eb1 li1 st1 rd1 tu1 la1 dl1 sh1 tb1 ft2 er2 eb2 li2 st2 rd2 tu2 la2 dl2 sh2 tb2 yc' yp' yg' s' a' sv' sm' nx cd' dg' pw',
      fX5_carryOut_L31 fu tx k gft ger geb gli gst grd gtu gla gdl gsh gtb ft er eb li st rd tu la dl sh tb yc yp yg cm (nI c) = some (o, ft1, er1, eb1, li1, st1, rd1, tu1, la1, dl1, sh1, tb1, ft2, er2, eb2, li2, st2, rd2, tu2, la2, dl2, sh2, tb2, yc', yp', yg', cm) ∧
      fX6_carryOut_L58 fu mt (nI n) k' th s asd sv sm (nI i) cd dg pw (nI c) = some (o, th, s', a', sv', sm', nx, cd', dg', pw') ∧ GR ft1 er1 eb1 li1 st1 rd1 tu1 la1 dl1 sh1 tb1 s' (B + 8 * t.length) ∧ GZ ft2 er2 li2 st2 ∧ HI yc' yp' yg' sv' sm' (B + 8 * t.length) := by
  have hrl : rows.length ≤ 60 := hcm.2.2.2.1
  have hcnt := t_count hcm
  intro t
  induction t with
  | nil =>
    intro c i k k' B ft er eb li st rd tu la dl sh tb s cd dg pw hd hc hgood hz hk hk' hB hB2
    obtain ⟨k, rfl⟩ : ∃ x, k = x + 1 := ⟨k - 1, by omega⟩
    obtain ⟨k', rfl⟩ : ∃ x, k' = x + 1 := ⟨k' - 1, by omega⟩
    have hgood : i = n := hgood
    have hce : c = rows.length := by have := dr_nil hd; omega
    obtain ⟨s1, a1, e1, e2, e3⟩ := m_ex (fu := fu) s asd hfu
    obtain ⟨yc', yp', yg', sv', sm', f1, f2, f3⟩ := g_save (fu := fu) (hG.cong e2) hH hfu
    obtain ⟨s2, a2, e4, e5, e6⟩ := m_ex (fu := fu) s1 a1 hfu
    obtain ⟨zn, zes, zfl, zsk, hz'⟩ := hz
    obtain ⟨ft', er', li', st', p1, p2⟩ := g_copy geb grd gtu gla gdl gsh gtb hz' hG.z
    refine ⟨nI rows.length, ft', er', eb, li', st', rd, tu, la, dl, sh, tb, ft, er, eb, li, st, rd, tu, la, dl, sh, tb, yc', yp', yg', s2, a2, sv', sm', nI i, cd, dg, pw, ?_, ?_, (GR.cong ⟨zn, zes, zfl, zsk, p2⟩ (fun q hq => (e5 q hq).trans (e3 q hq))).mono (by omega), hz'.z, f3.mono (by omega)⟩
    · rw [fX5_carryOut_L31]
      simp only [fX3_commandCount, hcnt, Option.bind_some]
      rw [if_pos (nle (show rows.length ≤ c by omega) (by omega)), f1]
      simp only [Option.bind_some, p1]
    · rw [fX6_carryOut_L58, if_pos (nle (show n ≤ i by omega) (by omega)), e1]
      simp only [Option.bind_some, f2, e4]
      rw [hce]
  | cons row t ih =>
    intro c i k k' B ft er eb li st rd tu la dl sh tb s cd dg pw hd hc hgood hz hk hk' hB hB2
    obtain ⟨k, rfl⟩ : ∃ x, k = x + 1 := ⟨k - 1, by omega⟩
    obtain ⟨k', rfl⟩ : ∃ x, k' = x + 1 := ⟨k' - 1, by omega⟩
    obtain ⟨h1, h2, h3⟩ := dr_cons hd
    obtain ⟨j, j1, j2, j3, j4⟩ := hgood
    obtain ⟨a0, a1, a2⟩ := cm_rows hcm h1
    obtain ⟨dg1, pw1, m1, hrow⟩ := j3 cd dg pw
    have hzz := hz
    obtain ⟨zn, zes, zfl, zsk, hz'⟩ := hz
    simp only [List.length_cons] at hk hk' hB2
    have hin : ¬ nI n ≤ nI i := nge (show i < n by omega) (by omega)
    have hcn : ¬ nI rows.length ≤ nI c := nge h3 (by omega)
    rcases do_all hrow hz' a0 a1 a2 hfu (by omega) with ⟨p1, p2⟩ | ⟨ft', er', eb', li', st', rd', tu', la', dl', tb', s', r, p1, p2, p3, p4, p5⟩
    · obtain ⟨s', e1, e2⟩ := m_rel (fu := fu) s asd hfu
      refine ⟨(-1000 : Int32) - nI c, gft, ger, geb, gli, gst, grd, gtu, gla, gdl, gsh, gtb, ft, er, eb, li, st, rd, tu, la, dl, sh, tb, yc, yp, yg, s', asd, sv, sm, nI j, gD row 0, dg1, pw1, ?_, ?_, (hG.cong e2).mono (by rw [List.length_cons]; omega), hzz.z, hH.mono (by rw [List.length_cons]; omega)⟩
      · rw [fX5_carryOut_L31]
        simp only [fX3_commandCount, hcnt, Option.bind_some]
        rw [if_neg hcn, p1]
        simp only [Option.bind_some, bIf, if_true]
      · rw [fX6_carryOut_L58, if_neg hin, m1]
        simp only [Option.bind_some, bIt, if_false, p2, bIf, if_true, e1]
    · obtain ⟨o, ft1, er1, eb1, li1, st1, rd1, tu1, la1, dl1, sh1, tb1, ft2, er2, eb2, li2, st2, rd2, tu2, la2, dl2, sh2, tb2, yc', yp', yg', s2, a', sv', sm', nx, cd', dg', pw', q1, q2, q3, q4, q5⟩ := ih (c + 1) j k k' (B + 8) ft' er' eb' li' st' rd' tu' la' dl' sh tb' s' (gD row 0) dg1 pw1 h2 h3 j4 p5 (by omega) (by omega) (by omega) (by omega)
      refine ⟨o, ft1, er1, eb1, li1, st1, rd1, tu1, la1, dl1, sh1, tb1, ft2, er2, eb2, li2, st2, rd2, tu2, la2, dl2, sh2, tb2, yc', yp', yg', s2, a', sv', sm', nx, cd', dg', pw', ?_, ?_, by rw [List.length_cons, show B + 8 * (t.length + 1) = B + 8 + 8 * t.length by omega]; exact q3, q4, by rw [List.length_cons, show B + 8 * (t.length + 1) = B + 8 + 8 * t.length by omega]; exact q5⟩
      · rw [fX5_carryOut_L31]
        simp only [fX3_commandCount, hcnt, Option.bind_some]
        rw [if_neg hcn, p1]
        simp only [Option.bind_some, bIt, if_false, nS]
        exact q1
      · rw [fX6_carryOut_L58, if_neg hin, m1]
        simp only [Option.bind_some, bIt, if_false, p2, p3]
        rw [if_pos p4, nS]
        exact q2
theorem sim_carryOut {fu : Nat} (hfu : 2000 < fu) : Sim_carryOut fu Inv := by
  intro k c mo hI
  have hI0 := hI
  obtain ⟨B, hB, hG, hZ, hH, hT, hC⟩ := hI
  have hT0 := hT
  obtain ⟨bs, t1, t2, t3, t4⟩ := hT
  have hTT : TT c.tx mo.mt bs := ⟨t1, t3, t4⟩
  have hl := hTT.len
  obtain ⟨cm0, z1, z2⟩ := t_clearZ hC
  rcases read_all (fu := fu) (sa := mo.sa) (asd := mo.asd) (sv := mo.sv) (sm := mo.sm) hTT hfu bs.length 0 [] cm0 fu (by omega) (Nat.zero_le _) (by simp) z2 (by omega) with ⟨j, cm', j1, r1, r2, r3⟩ | ⟨t, cm', r1, r2, r3, r4⟩
  · obtain ⟨cd, dg, pw, e⟩ := r3 fu mo.cd mo.dg mo.pw (by omega)
    have r1 : fX3_read fu c.tx c.cm = some (nI j, cm') := by rw [fX3_read, z1]; exact r1
    have e : fX6_carryOut fu mo.th mo.sa mo.asd mo.sv mo.sm mo.mt mo.ln mo.nx mo.cd mo.dg mo.pw = some ((-10 : Int32) - nI j, 0, mo.sa, mo.asd, mo.sv, mo.sm, nI j, cd, dg, pw) := by rw [fX6_carryOut, t2]; exact e
    refine ⟨((-10 : Int32) - nI j, c.ft, c.er, c.eb, c.li, c.st, c.rd, c.tu, c.la, c.dl, c.sh, c.tb, c.zft, c.zer, c.zeb, c.zli, c.zst, c.zrd, c.ztu, c.zla, c.zdl, c.zsh, c.ztb, c.yc, c.yp, c.yg, cm'), _, ?_, e, rfl, inv_put B (by omega) hG hZ hH hT0 r2⟩
    rw [fX5_carryOut, r1]
    simp only [Option.bind_some]
    rw [if_neg (nI_m1 (by omega))]
  · obtain ⟨nx, cd, dg, pw, e⟩ := r4 fu mo.cd mo.dg mo.pw (by omega)
    have r1 : fX3_read fu c.tx c.cm = some (-1, cm') := by rw [fX3_read, z1]; exact r1
    rw [List.nil_append] at r2
    have hrl : t.length ≤ 60 := r2.2.2.2.1
    obtain ⟨m, es, fl, sk, h⟩ := hG
    obtain ⟨ft1, er1, li1, st1, c1, hA⟩ := g_copy c.zeb c.zrd c.ztu c.zla c.zdl c.zsh c.ztb h hZ
    obtain ⟨a1, m1, m2⟩ := m_hold (fu := fu) mo.sa mo.asd hfu
    obtain ⟨o, ft2, er2, eb2, li2, st2, rd2, tu2, la2, dl2, sh2, tb2, ft3, er3, eb3, li3, st3, rd3, tu3, la3, dl3, sh3, tb3, yc', yp', yg', s', a', sv', sm', nx', cd', dg', pw', q1, q2, q3, q4, q5⟩ := carry2 (fu := fu) (tx := c.tx) (cm := cm') (mt := mo.mt) (n := bs.length) (rows := t) (th := 0) hfu hl r2 (GR.cong ⟨m, es, fl, sk, h⟩ m2) hH t 0 0 fu fu B ft1 er1 c.eb li1 st1 c.rd c.tu c.la c.dl c.sh c.tb mo.sa cd dg pw rfl (Nat.zero_le _) r3 ⟨m, es, fl, sk, hA⟩ (by omega) (by omega) (Nat.le_refl _) (by omega)
    have q1 : fX5_carryOut_L31 fu c.tx fu c.ft c.er c.eb c.li c.st c.rd c.tu c.la c.dl c.sh c.tb ft1 er1 c.eb li1 st1 c.rd c.tu c.la c.dl c.sh c.tb c.yc c.yp c.yg cm' 0 = some (o, ft2, er2, eb2, li2, st2, rd2, tu2, la2, dl2, sh2, tb2, ft3, er3, eb3, li3, st3, rd3, tu3, la3, dl3, sh3, tb3, yc', yp', yg', cm') := q1
    have q2 : fX6_carryOut_L58 fu mo.mt (nI bs.length) fu 0 mo.sa a1 mo.sv mo.sm 0 cd dg pw 0 = some (o, 0, s', a', sv', sm', nx', cd', dg', pw') := q2
    refine ⟨(o, ft2, er2, eb2, li2, st2, rd2, tu2, la2, dl2, sh2, tb2, ft3, er3, eb3, li3, st3, rd3, tu3, la3, dl3, sh3, tb3, yc', yp', yg', cm'), (o, 0, s', a', sv', sm', nx', cd', dg', pw'), ?_, ?_, rfl, inv_put (B + 8 * t.length) (by omega) q3 q4 q5 hT0 (TL.z r2)⟩
    · rw [fX5_carryOut, r1]
      simp only [Option.bind_some]
      rw [if_pos trivial, c1]
      simp only [Option.bind_some]
      exact q1
    · have e : fX6_carryOut_L12 fu mo.mt (nI bs.length) fu 0 mo.sa mo.asd mo.sv mo.sm 0 mo.cd mo.dg mo.pw true = fX6_carryOut_J35 fu mo.mt (nI bs.length) 0 mo.sa mo.asd mo.sv mo.sm nx cd dg pw true := e
      rw [fX6_carryOut, t2, e, fX6_carryOut_J35, if_neg bI_t, m1]
      simp only [Option.bind_some]
      exact q2
/-! all calls; the beginning -/
theorem sim_mono {fu : Nat} : Sim_mono fu Inv := fun {n c mo} h => by
  obtain ⟨B, hB, h⟩ := h
  exact ⟨B, by omega, h⟩
theorem sim_all {fu : Nat} (hfu : 2000 < fu) : Sim fu Inv :=
  ⟨sim_mono (fu := fu), sim_add hfu, sim_setSpeed hfu, sim_setShock hfu, sim_fighter hfu, sim_effect hfu, sim_value hfu, sim_inList hfu, sim_next hfu, sim_end hfu, sim_delay hfu, sim_comeIn hfu, sim_act hfu, sim_cast hfu, sim_settle hfu, sim_stacked hfu, sim_mayAnswer hfu, sim_upcoming hfu, sim_goneAfter hfu, sim_lifeSettled hfu, sim_vigor hfu, sim_append hfu, sim_clearText hfu, sim_carryOut hfu, sim_undo hfu, sim_digest hfu⟩
