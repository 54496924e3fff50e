
theorem d7 : TD 7 8 := ⟨by decide, by decide, by decide⟩
theorem t_push {fu c mx : Nat} {T : Tab} {rs : List Row} (h : TL c mx T rs) (d : TD c mx) (hm : rs.length < mx) (hf : 8 < fu) : ∃ T', fX4_insert fu T (nI rs.length) = some T' ∧ TL c mx T' (rs ++ [List.replicate c 0]) := by
  obtain ⟨T', a, b⟩ := t_insert (fu := fu) h d (Nat.le_refl rs.length) hm hf
  refine ⟨T', a, ?_⟩
  rw [show rs ++ [List.replicate c (0 : Int32)] = rs.insertIdx rs.length (List.replicate c 0) by simp]
  exact b
theorem t_ptop {c mx j : Nat} {T : Tab} {rs : List Row} {r : Row} {v : Int32} (h : TL c mx T (rs ++ [r])) (d : TD c mx) (hj : j < c) : ∃ T', fX4_put T (nI rs.length) (nI j) v = some T' ∧ TL c mx T' (rs ++ [r.set j v]) := by
  obtain ⟨T', a, b⟩ := t_put (v := v) h d (show (rs ++ [r])[rs.length]? = some r by simp) hj
  refine ⟨T', a, ?_⟩
  rw [show rs ++ [r.set j v] = (rs ++ [r]).set rs.length (r.set j v) by rw [mid_set rs [] r (r.set j v)]]
  exact b
theorem nA1 (a : Nat) : nI a + 1 = nI (a + 1) := nI_add a 1
theorem nA2 (a : Nat) : nI a + 2 = nI (a + 2) := nI_add a 2
theorem nA3 (a : Nat) : nI a + 3 = nI (a + 3) := nI_add a 3
theorem nA4 (a : Nat) : nI a + 4 = nI (a + 4) := nI_add a 4
theorem nA5 (a : Nat) : nI a + 5 = nI (a + 5) := nI_add a 5
theorem nA6 (a : Nat) : nI a + 6 = nI (a + 6) := nI_add a 6
theorem nA7 (a : Nat) : nI a + 7 = nI (a + 7) := nI_add a 7
theorem nA0 (a : Nat) : nI a + 0 = nI a := nI_add a 0
theorem c_pushJ {fu : Nat} {ft st : Tab} {dl : Bool} {sk : List Row} (p0 p1 p2 p3 p4 p5 p6 : Int32) (h : TL 7 8 st sk) (hS : sk.length < 8) (hfu : 2000 < fu) :
    ∃ st', fX1_beginAct_J20 fu st dl p0 p1 p2 p3 p4 p5 p6 ft = some (nI (sk.length + 1), ft, st', false) ∧ TL 7 8 st' (sk ++ [[p0, p1, p2, p3, p4, p5, p6]]) := by
  obtain ⟨t, a, b⟩ := t_push (fu := fu) h d7 hS (by omega)
  obtain ⟨t0, a0, b0⟩ := t_ptop (v := p0) b d7 (show 0 < 7 by decide)
  obtain ⟨t1, a1, b1⟩ := t_ptop (v := p1) b0 d7 (show 1 < 7 by decide)
  obtain ⟨t2, a2, b2⟩ := t_ptop (v := p2) b1 d7 (show 2 < 7 by decide)
  obtain ⟨t3, a3, b3⟩ := t_ptop (v := p3) b2 d7 (show 3 < 7 by decide)
  obtain ⟨t4, a4, b4⟩ := t_ptop (v := p4) b3 d7 (show 4 < 7 by decide)
  obtain ⟨t5, a5, b5⟩ := t_ptop (v := p5) b4 d7 (show 5 < 7 by decide)
  obtain ⟨t6, a6, b6⟩ := t_ptop (v := p6) b5 d7 (show 6 < 7 by decide)
  have a0 : fX4_put t (nI sk.length) 0 p0 = some t0 := a0
  have a1 : fX4_put t0 (nI sk.length) 1 p1 = some t1 := a1
  have a2 : fX4_put t1 (nI sk.length) 2 p2 = some t2 := a2
  have a3 : fX4_put t2 (nI sk.length) 3 p3 = some t3 := a3
  have a4 : fX4_put t3 (nI sk.length) 4 p4 = some t4 := a4
  have a5 : fX4_put t4 (nI sk.length) 5 p5 = some t5 := a5
  have a6 : fX4_put t5 (nI sk.length) 6 p6 = some t6 := a6
  have b6 : TL 7 8 t6 (sk ++ [[p0, p1, p2, p3, p4, p5, p6]]) := b6
  refine ⟨t6, ?_, b6⟩
  rw [fX1_beginAct_J20, t_count h]
  simp only [Option.bind_some, a, a0, a1, a2, a3, a4, a5, a6, t_count b6]
  simp
theorem psum_b {f q : Int32} : ∀ {es : List Row} {s0 : Nat}, pwOk es → ∃ s, s ≤ s0 + 20 * es.length ∧ psumF f q es (nI s0) = nI s
  | [], s0, _ => ⟨s0, by simp, rfl⟩
  | r :: t, s0, h => by
    have ht : pwOk t := fun x hx => h x (List.mem_cons_of_mem _ hx)
    obtain ⟨p, p1, p2⟩ := h r List.mem_cons_self
    rw [psumF]
    by_cases e : gD r 3 = f ∧ gD r 0 = q
    · rw [if_pos e, p2, nI_add]
      obtain ⟨s, a, b⟩ := psum_b (f := f) (q := q) (s0 := s0 + p) ht
      exact ⟨s, by simp; omega, b⟩
    · rw [if_neg e]
      obtain ⟨s, a, b⟩ := psum_b (f := f) (q := q) (s0 := s0) ht
      exact ⟨s, by simp; omega, b⟩
theorem c_begE {fu : Nat} {er : Tab} {eb : Int32} {es : List Row} (p1 p2 p3 p4 p5 p6 v7 : Int32) (h : EC er es) (hfu : 2000 < fu) :
    (es.length = 30 → fX0_begin_J17 fu eb p1 p2 p3 p4 p5 p6 er v7 = some (er, eb)) ∧ (es.length < 30 → ∃ er', fX0_begin_J17 fu eb p1 p2 p3 p4 p5 p6 er v7 = some (er', eb + 1) ∧ EC er' (es ++ [[p1, p2, p3, p4, p5, p6 / (2 : Int32), v7, eb]])) := by
  constructor
  · intro e
    rw [fX0_begin_J17, t_full h d8]
    simp only [Option.bind_some]
    rw [if_neg (fun q => (bI0.mp q) e)]
  · intro e
    obtain ⟨t, a, b⟩ := t_push (fu := fu) h d8 e (by omega)
    obtain ⟨t0, a0, b0⟩ := t_ptop (v := p1) b d8 (show 0 < 8 by decide)
    obtain ⟨t1, a1, b1⟩ := t_ptop (v := p2) b0 d8 (show 1 < 8 by decide)
    obtain ⟨t2, a2, b2⟩ := t_ptop (v := p3) b1 d8 (show 2 < 8 by decide)
    obtain ⟨t3, a3, b3⟩ := t_ptop (v := p4) b2 d8 (show 3 < 8 by decide)
    obtain ⟨t4, a4, b4⟩ := t_ptop (v := p5) b3 d8 (show 4 < 8 by decide)
    obtain ⟨t5, a5, b5⟩ := t_ptop (v := p6 / (2 : Int32)) b4 d8 (show 5 < 8 by decide)
    obtain ⟨t6, a6, b6⟩ := t_ptop (v := v7) b5 d8 (show 6 < 8 by decide)
    obtain ⟨t7, a7, b7⟩ := t_ptop (v := eb) b6 d8 (show 7 < 8 by decide)
    have a0 : fX4_put t (nI es.length) 0 p1 = some t0 := a0
    have a1 : fX4_put t0 (nI es.length) 1 p2 = some t1 := a1
    have a2 : fX4_put t1 (nI es.length) 2 p3 = some t2 := a2
    have a3 : fX4_put t2 (nI es.length) 3 p4 = some t3 := a3
    have a4 : fX4_put t3 (nI es.length) 4 p5 = some t4 := a4
    have a5 : fX4_put t4 (nI es.length) 5 (p6 / (2 : Int32)) = some t5 := a5
    have a6 : fX4_put t5 (nI es.length) 6 v7 = some t6 := a6
    have a7 : fX4_put t6 (nI es.length) 7 eb = some t7 := a7
    refine ⟨t7, ?_, b7⟩
    rw [fX0_begin_J17, t_full h d8, t_count h]
    simp only [Option.bind_some]
    rw [if_pos (bI0.mpr (by omega))]
    simp only [a, a0, a1, a2, a3, a4, a5, a6, a7, Option.bind_some]
theorem c_topAct {st : Tab} {sk : List Row} {r : Row} {j : Nat} (h : TL 7 8 st (sk ++ [r])) (hj : j < 7) : fX1_aboutAct st 0 (nI j) = some (gD r j) := by
  have hc : fX4_count st = some (nI (sk.length + 1)) := by rw [t_count h]; simp
  rw [fX1_aboutAct, hc]
  simp only [Option.bind_some]
  rw [show nI (sk.length + 1) - 1 - 0 = nI sk.length by rw [nI_pred, Int32.sub_zero], t_at h d7 (show (sk ++ [r])[sk.length]? = some r by simp) hj]
  rfl
theorem c_drop {st : Tab} {sk : List Row} {r : Row} (h : TL 7 8 st (sk ++ [r])) : ∃ st', fX1_dropTop st = some st' ∧ TL 7 8 st' sk := by
  have hc : fX4_count st = some (nI (sk.length + 1)) := by rw [t_count h]; simp
  obtain ⟨st', a, b⟩ := t_remove h d7 (i := sk.length) (by simp)
  rw [mid_er sk [] r, List.append_nil] at b
  refine ⟨st', ?_, b⟩
  rw [fX1_dropTop, hc]
  simp only [Option.bind_some, nI_pred, a]
/-! copies, saved states -/
def GZ (ft er li st : Tab) : Prop := TZ 4 10 ft ∧ TZ 8 30 er ∧ TZ 2 10 li ∧ TZ 7 8 st
theorem g_copy {ft er li st zft zer zli zst : Tab} (zeb zrd ztu zla : Int32) (zdl : Bool) (zsh ztb eb rd tu la : Int32) (dl : Bool) (sh tb : Int32) (h : GZ ft er li st) (hz : GZ zft zer zli zst) :
    fX1_copyFrom zft zer zeb zli zst zrd ztu zla zdl zsh ztb ft er eb li st rd tu la dl sh tb = some (ft, er, eb, li, st, rd, tu, la, dl, sh, tb) := by
  obtain ⟨a1, a2, a3, a4⟩ := h
  obtain ⟨z1, z2, z3, z4⟩ := hz
  rw [fX1_copyFrom, fX0_copyFrom, t_copy z1 a1 d4, t_copy z2 a2 d8, t_copy z3 a3 d2, t_copy z4 a4 d7]
  rfl
abbrev GVZ (g : GV) : Prop := GZ g.1 g.2.1 g.2.2.2.1 g.2.2.2.2.1
theorem c_slot {yp : Nat → Nat} {i : Nat} (hi : i < 4) : fX2_slotAt yp (nI i) = some (yp i) := by
  rw [fX2_slotAt, if_neg (nI_pos (by omega)), if_neg (show ¬ Int32.ofNat 4 ≤ nI i from nI_ge (b := 4) hi (by decide)), if_pos (show ¬ (nI i < 0 ∨ 4 ≤ (nI i).toNatClampNeg) from vp_in_nI hi (by decide)), nI_clamp (by omega)]
theorem c_dropO {fu : Nat} {yp : Nat → Nat} (hp : ∀ i, i < 4 → yp i < 4) (hfu : 2000 < fu) : ∃ yp', fX2_dropOldest fu (nI 4) yp = some (nI 3, yp') ∧ ∀ i, i < 4 → yp' i = yp (if i = 3 then 0 else i + 1) := by
  obtain ⟨k, rfl⟩ : ∃ k, fu = k + 4 := ⟨fu - 4, by omega⟩
  refine ⟨va_up (va_up (va_up (va_up yp 0 (yp 1)) 1 (yp 2)) 2 (yp 3)) 3 (yp 0), ?_, fun i hi => ?_⟩
  · have p0 := hp 0 (by decide)
    have p1 := hp 1 (by decide)
    have p2 := hp 2 (by decide)
    have p3 := hp 3 (by decide)
    have s0 : fX2_slotAt yp 0 = some (yp 0) := c_slot (i := 0) (by decide)
    rw [fX2_dropOldest, s0, Option.bind_some, fX2_dropOldest_L8, if_neg (by decide), if_pos (by decide), if_pos ⟨by decide, p1⟩]
    show fX2_dropOldest_L8 (k + 4) (nI 4) (yp 0) (k + 3) (va_up yp 0 (yp 1)) 2 = _
    rw [fX2_dropOldest_L8, if_neg (by decide), if_pos (by decide), if_pos ⟨by decide, show va_up yp 0 (yp 1) 2 < 4 by rw [va_up_ne _ _ (by decide)]; exact p2⟩]
    show fX2_dropOldest_L8 (k + 4) (nI 4) (yp 0) (k + 2) (va_up (va_up yp 0 (yp 1)) 1 (va_up yp 0 (yp 1) 2)) 3 = _
    rw [va_up_ne yp (j := 2) _ (by decide), fX2_dropOldest_L8, if_neg (by decide), if_pos (by decide), if_pos ⟨by decide, show va_up (va_up yp 0 (yp 1)) 1 (yp 2) 3 < 4 by rw [va_up_ne _ _ (by decide), va_up_ne _ _ (by decide)]; exact p3⟩]
    show fX2_dropOldest_L8 (k + 4) (nI 4) (yp 0) (k + 1) (va_up (va_up (va_up yp 0 (yp 1)) 1 (yp 2)) 2 (va_up (va_up yp 0 (yp 1)) 1 (yp 2) 3)) 4 = _
    rw [va_up_ne _ (j := 3) _ (by decide), va_up_ne yp (j := 3) _ (by decide), fX2_dropOldest_L8, if_pos (by decide), if_neg (by decide), if_pos ⟨by decide, p0⟩]
    rfl
  · match i, hi with
    | 0, _ => rfl
    | 1, _ => rfl
    | 2, _ => rfl
    | 3, _ => rfl
def inB (p a b : Int32) : Bool := if p < a then false else if b < p then false else true
theorem c_within (p a b : Int32) : fX5_within p a b = some (inB p a b) := by
  rw [fX5_within, inB]; split
  · rfl
  · split <;> rfl
theorem inB_t {p a b : Int32} (h : inB p a b = true) : ¬ p < a ∧ ¬ b < p := by
  unfold inB at h
  split at h
  · cases h
  · split at h
    · cases h
    · rename_i x y; exact ⟨x, y⟩
theorem inB_r {p : Int32} {a b : Nat} (h : inB p (nI a) (nI b) = true) (hb : b < 2 ^ 31) (ha : a < 2 ^ 31) : ∃ j, a ≤ j ∧ j ≤ b ∧ p = nI j := by
  obtain ⟨h1, h2⟩ := inB_t h
  have h0 : ¬ p < 0 := fun q => h1 (by
    rw [Int32.lt_iff_toInt_lt] at q ⊢
    rw [nI_toInt ha]
    rw [show (0 : Int32).toInt = 0 from rfl] at q
    omega)
  obtain ⟨j, j1, j2⟩ := nI_of h0
  subst j2
  refine ⟨j, ?_, ?_, rfl⟩
  · rcases Nat.lt_or_ge j a with q | q
    · exact absurd (nI_lt q ha) h1
    · exact q
  · rcases Nat.lt_or_ge b j with q | q
    · exact absurd (nI_lt q j1) h2
    · exact q
theorem inB_ix {p : Int32} {k : Nat} (h : inB p 0 (nI k - 1) = true) (hk : k < 2 ^ 31) : ∃ j, j < k ∧ p = nI j := by
  rcases Nat.eq_zero_or_pos k with z | z
  · subst z
    obtain ⟨h1, h2⟩ := inB_t h
    exfalso
    rw [Int32.lt_iff_toInt_lt] at h1 h2
    rw [show (nI 0 - 1 : Int32).toInt = -1 from rfl] at h2
    rw [show (0 : Int32).toInt = 0 from rfl] at h1
    omega
  · obtain ⟨m, rfl⟩ : ∃ m, k = m + 1 := ⟨k - 1, by omega⟩
    rw [nI_pred] at h
    obtain ⟨j, -, j2, j3⟩ := inB_r (a := 0) h (by omega) (by decide)
    exact ⟨j, by omega, j3⟩
theorem inB_of {a b j : Nat} (h1 : a ≤ j) (h2 : j ≤ b) (hb : b < 2 ^ 31) : inB (nI j) (nI a) (nI b) = true := by
  unfold inB
  rw [if_neg (nI_nlt h1 (by omega)), if_neg (nI_nlt h2 hb)]
theorem inB_oix {j k : Nat} (h : j < k) (hk : k < 2 ^ 31) : inB (nI j) 0 (nI k - 1) = true := by
  obtain ⟨m, rfl⟩ : ∃ m, k = m + 1 := ⟨k - 1, by omega⟩
  rw [nI_pred]
  exact inB_of (a := 0) (Nat.zero_le _) (by omega) (by omega)

/-- the saved states, c of them: each has what K says -/
def HK (K : GV → Prop) (c : Nat) (yc : Int32) (yp : Nat → Nat) (yg : Nat → GV) : Prop :=
  c ≤ 4 ∧ yc = nI c ∧ (∀ i, i < 4 → yp i < 4) ∧ (∀ i j, i < 4 → j < 4 → yp i = yp j → i = j) ∧ (∀ j, j < 4 → GVZ (yg j)) ∧ ∀ i, i < c → K (yg (yp i))
/-- a state is saved; it is the topmost then -/
theorem g_save {K : GV → Prop} {c fu : Nat} {yc : Int32} {yp : Nat → Nat} {yg : Nat → GV} (g : GV) (hg : GVZ g) (hK : K g) (hH : HK K c yc yp yg) (hfu : 2000 < fu) :
    ∃ c' yc' yp' yg', fX2_save fu yc yp yg g.1 g.2.1 g.2.2.1 g.2.2.2.1 g.2.2.2.2.1 g.2.2.2.2.2.1 g.2.2.2.2.2.2.1 g.2.2.2.2.2.2.2.1 g.2.2.2.2.2.2.2.2.1 g.2.2.2.2.2.2.2.2.2.1 g.2.2.2.2.2.2.2.2.2.2 = some (yc', yp', yg') ∧ HK K (c' + 1) yc' yp' yg' ∧ yg' (yp' c') = g := by
  obtain ⟨hc, rfl, hp, hi, hz, hr⟩ := hH
  have J : ∀ (c : Nat) (yp : Nat → Nat), c < 4 → yp c < 4 → fX2_save_J16 fu yg g.1 g.2.1 g.2.2.1 g.2.2.2.1 g.2.2.2.2.1 g.2.2.2.2.2.1 g.2.2.2.2.2.2.1 g.2.2.2.2.2.2.2.1 g.2.2.2.2.2.2.2.2.1 g.2.2.2.2.2.2.2.2.2.1 g.2.2.2.2.2.2.2.2.2.2 (nI c) yp = some (nI (c + 1), yp, va_up yg (yp c) g) := by
    intro c yp hc hpc
    rw [fX2_save_J16, c_slot hc]
    simp only [Option.bind_some]
    rw [if_pos hpc, g_copy _ _ _ _ _ _ _ _ _ _ _ _ _ _ hg (hz _ hpc)]
    simp only [Option.bind_some, nS]
  by_cases e : c < 4
  · refine ⟨c, nI (c + 1), yp, va_up yg (yp c) g, ?_, ⟨by omega, rfl, hp, hi, fun j hj => ?_, fun i hic => ?_⟩, va_up_self _ _ _⟩
    · rw [fX2_save, if_pos (show nI c < Int32.ofNat 4 from nI_lt (b := 4) e (by decide))]
      exact J c yp e (hp c e)
    · by_cases q : j = yp c
      · rw [q, va_up_self]; exact hg
      · rw [va_up_ne _ _ q]; exact hz j hj
    · by_cases q : i = c
      · subst q
        rw [va_up_self]; exact hK
      · rw [va_up_ne _ _ (fun w => q (hi i c (by omega) e w))]
        exact hr i (by omega)
  · have e4 : c = 4 := by omega
    subst e4
    obtain ⟨yp', d1, d2⟩ := c_dropO (fu := fu) hp hfu
    have hp' : ∀ i, i < 4 → yp' i < 4 := fun i hi4 => by rw [d2 i hi4]; split; exact hp 0 (by decide); exact hp _ (by omega)
    have hi' : ∀ i j, i < 4 → j < 4 → yp' i = yp' j → i = j := fun i j h1 h2 w => by
      rw [d2 i h1, d2 j h2] at w
      have := hi _ _ (by split <;> omega) (by split <;> omega) w
      split at this <;> split at this <;> omega
    refine ⟨3, nI 4, yp', va_up yg (yp' 3) g, ?_, ⟨Nat.le_refl _, rfl, hp', hi', fun j hj => ?_, fun i hic => ?_⟩, va_up_self _ _ _⟩
    · rw [fX2_save, if_neg (by decide), d1]
      exact J 3 yp' (by decide) (hp' 3 (by decide))
    · by_cases q : j = yp' 3
      · rw [q, va_up_self]; exact hg
      · rw [va_up_ne _ _ q]; exact hz j hj
    · by_cases q : i = 3
      · subst q
        rw [va_up_self]; exact hK
      · rw [va_up_ne _ _ (fun w => q (hi' i 3 (by omega) (by decide) w)), d2 i hic, if_neg q]
        exact hr (i + 1) (by omega)
/-- the topmost saved state comes back, in all its words -/
theorem g_undo {K : GV → Prop} {c : Nat} {yc : Int32} {yp : Nat → Nat} {yg : Nat → GV} {ft er : Tab} (eb : Int32) {li st : Tab} (rd tu la : Int32) (dl : Bool) (sh tb : Int32) (hz : GZ ft er li st) (hH : HK K (c + 1) yc yp yg) :
    fX2_restore yc yp yg ft er eb li st rd tu la dl sh tb = some (nI c, yg (yp c)) ∧ HK K c (nI c) yp yg := by
  obtain ⟨hc, rfl, hp, hi, hg, hr⟩ := hH
  refine ⟨?_, by omega, rfl, hp, hi, hg, fun i hic => hr i (by omega)⟩
  have hpc := hp c (by omega)
  have hgc := hg _ hpc
  rw [fX2_restore, nI_pred, c_slot (by omega)]
  simp only [Option.bind_some]
  rw [if_pos hpc, g_copy _ _ _ _ _ _ _ _ _ _ _ _ _ _ hgc hz]
  rfl
