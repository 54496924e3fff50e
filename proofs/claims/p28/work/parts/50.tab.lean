/-! the words of a table: its rows -/
abbrev Row : Type := List Int32
/-- a column of a row -/
def gD (r : Row) (j : Nat) : Int32 := r.getD j 0
theorem gD_eq (r : Row) (j : Nat) : gD r j = (r[j]?).getD 0 := List.getD_eq_getElem?_getD ..
/-- T holds the rows rs, of c columns each, with room for mx -/
def TL (c mx : Nat) (T : Tab) (rs : List Row) : Prop :=
  T.1 = nI c ∧ T.2.1 = mx * c ∧ T.2.2.2 = nI rs.length ∧ rs.length ≤ mx ∧ (∀ (i : Nat) (r : Row), rs[i]? = some r → (r.length = c ∧ ∀ j, j < c → T.2.2.1 (i * c + j) = gD r j)) ∧ ∀ q, mx * c ≤ q → T.2.2.1 q = 0
def TD (c mx : Nat) : Prop := 0 < c ∧ c ≤ 8 ∧ mx ≤ 120
theorem tl_lt {α : Type} {rs : List α} {i : Nat} {r : α} (h : rs[i]? = some r) : i < rs.length := (List.getElem?_eq_some_iff.mp h).1
theorem tl_ix {i c mx j : Nat} (hi : i < mx) (hj : j < c) : i * c + j < mx * c := by
  have h := Nat.mul_le_mul_right c (show i + 1 ≤ mx from hi)
  rw [Nat.succ_mul] at h
  omega
theorem tl_big {c mx : Nat} (h : TD c mx) : mx * c ≤ 960 := Nat.mul_le_mul h.2.2 h.2.1
theorem t_count {c mx : Nat} {T : Tab} {rs : List Row} (h : TL c mx T rs) : fX4_count T = some (nI rs.length) := by
  rw [fX4_count, h.2.2.1]
theorem t_at {c mx : Nat} {T : Tab} {rs : List Row} {i j : Nat} {r : Row} (h : TL c mx T rs) (d : TD c mx) (hi : rs[i]? = some r) (hj : j < c) : fX4_at T (nI i) (nI j) = some (gD r j) := by
  have hb := tl_big d
  obtain ⟨h1, h2, h3, h4, h5, h6⟩ := h
  obtain ⟨d0, d1, d2⟩ := d
  have hil := tl_lt hi
  have hlt : i * c + j < mx * c := tl_ix (by omega) hj
  have e1 : ¬ nI i < 0 := nI_pos (by omega)
  have e2 : ¬ nI rs.length ≤ nI i := nI_ge hil (by omega)
  have e3 : ¬ nI j < 0 := nI_pos (by omega)
  have e4 : nI j < nI c := nI_lt hj (by omega)
  have e5 : nI i * nI c + nI j = nI (i * c + j) := by rw [pk_mul, nI_add]
  have e6 : ¬ Int32.ofNat (mx * c) ≤ nI (i * c + j) := nI_ge hlt (by omega)
  have e7 : ¬ (nI (i * c + j) < 0 ∨ mx * c ≤ (nI (i * c + j)).toNatClampNeg) := vp_in_nI hlt (by omega)
  have e8 : (nI (i * c + j)).toNatClampNeg = i * c + j := nI_clamp (by omega)
  rw [fX4_at, h1, h2, h3, if_neg e1, if_neg e2, if_neg e3, if_pos e4, e5, if_neg e6, if_pos e7, e8, (h5 i r hi).2 j hj]
theorem t_at_out {c mx : Nat} {T : Tab} {rs : List Row} {i : Nat} {k : Int32} (h : TL c mx T rs) (d : TD c mx) (hi : rs.length ≤ i) (hb : i < 2 ^ 31) : fX4_at T (nI i) k = some (-1) := by
  obtain ⟨h1, h2, h3, h4, h5, h6⟩ := h
  have e1 : ¬ nI i < 0 := nI_pos (by omega)
  have e2 : nI rs.length ≤ nI i := nI_le hi (by omega)
  rw [fX4_at, h3, if_neg e1, if_pos e2]
theorem t_at_neg {T : Tab} {x k : Int32} (hx : x < 0) : fX4_at T x k = some (-1) := by
  rw [fX4_at, if_pos hx]
theorem t_put {c mx : Nat} {T : Tab} {rs : List Row} {i j : Nat} {r : Row} {v : Int32} (h : TL c mx T rs) (d : TD c mx) (hi : rs[i]? = some r) (hj : j < c) : ∃ T', fX4_put T (nI i) (nI j) v = some T' ∧ TL c mx T' (rs.set i (r.set j v)) := by
  have hb := tl_big d
  obtain ⟨h1, h2, h3, h4, h5, h6⟩ := h
  obtain ⟨d0, d1, d2⟩ := d
  have hil := tl_lt hi
  have hlt : i * c + j < mx * c := tl_ix (by omega) hj
  have e1 : ¬ nI i < 0 := nI_pos (by omega)
  have e2 : ¬ nI rs.length ≤ nI i := nI_ge hil (by omega)
  have e3 : ¬ nI j < 0 := nI_pos (by omega)
  have e4 : nI j < nI c := nI_lt hj (by omega)
  have e5 : nI i * nI c + nI j = nI (i * c + j) := by rw [pk_mul, nI_add]
  have e6 : ¬ Int32.ofNat (mx * c) ≤ nI (i * c + j) := nI_ge hlt (by omega)
  have e7 : ¬ (nI (i * c + j) < 0 ∨ mx * c ≤ (nI (i * c + j)).toNatClampNeg) := vp_in_nI hlt (by omega)
  have e8 : (nI (i * c + j)).toNatClampNeg = i * c + j := nI_clamp (by omega)
  refine ⟨(T.1, T.2.1, upd T.2.2.1 (i * c + j) v, T.2.2.2), ?_, h1, h2, ?_, ?_, ?_, fun q hq => ?_⟩
  · rw [fX4_put, if_neg e1, h3, if_neg e2, if_neg e3, h1, if_pos e4, e5, h2, if_neg e6, if_pos e7, e8]
  · show T.2.2.2 = _
    rw [h3, List.length_set]
  · rw [List.length_set]; exact h4
  · intro i' r' hr'
    rw [List.getElem?_set] at hr'
    by_cases hii : i = i'
    · subst hii
      rw [if_pos rfl, if_pos hil] at hr'
      cases hr'
      obtain ⟨k1, k2⟩ := h5 i r hi
      refine ⟨by rw [List.length_set]; exact k1, fun j' hj' => ?_⟩
      show upd T.2.2.1 (i * c + j) v (i * c + j') = _
      by_cases hjj : j' = j
      · subst hjj
        rw [pk_us, gD_eq, List.getElem?_set, if_pos rfl, if_pos (by omega)]; rfl
      · rw [pk_un (by omega), k2 j' hj', gD_eq, gD_eq, List.getElem?_set, if_neg (fun e => hjj e.symm)]
    · rw [if_neg hii] at hr'
      obtain ⟨k1, k2⟩ := h5 i' r' hr'
      refine ⟨k1, fun j' hj' => ?_⟩
      show upd T.2.2.1 (i * c + j) v (i' * c + j') = _
      have hne : i' * c + j' ≠ i * c + j := by
        rcases Nat.lt_or_ge i i' with q | q
        · have := Nat.mul_le_mul_right c (show i + 1 ≤ i' from q); rw [Nat.succ_mul] at this; omega
        · have := Nat.mul_le_mul_right c (show i' + 1 ≤ i by omega); rw [Nat.succ_mul] at this; omega
      rw [pk_un hne, k2 j' hj']
  · show upd T.2.2.1 (i * c + j) v q = 0
    rw [pk_un (by omega), h6 q hq]
theorem t_clear {c mx : Nat} {T : Tab} {rs : List Row} (h : TL c mx T rs) : ∃ T', fX4_clear T = some T' ∧ TL c mx T' [] := by
  obtain ⟨h1, h2, h3, h4, h5, h6⟩ := h
  exact ⟨(T.1, T.2.1, T.2.2.1, (0 : Int32)), by rw [fX4_clear], h1, h2, rfl, Nat.zero_le _, fun i r hr => by simp at hr, h6⟩
theorem t_full {c mx : Nat} {T : Tab} {rs : List Row} (h : TL c mx T rs) (d : TD c mx) : fX4_isFull T = some (decide (rs.length = mx)) := by
  have hb := tl_big d
  obtain ⟨h1, h2, h3, h4, h5, h6⟩ := h
  obtain ⟨d0, d1, d2⟩ := d
  have e5 : (nI rs.length + 1) * nI c = nI ((rs.length + 1) * c) := by rw [nI_1, pk_mul]
  rw [fX4_isFull, h1, h2, h3, e5]
  rcases Nat.lt_or_ge rs.length mx with q | q
  · have h9 := Nat.mul_le_mul_right c (show rs.length + 1 ≤ mx from q)
    rw [if_pos (show nI ((rs.length + 1) * c) ≤ Int32.ofNat (mx * c) from nI_le h9 (by omega)), decide_eq_false (by omega)]
  · have e : rs.length = mx := by omega
    have h9 : mx * c < (rs.length + 1) * c := by rw [e, Nat.succ_mul]; omega
    have h8 : (rs.length + 1) * c ≤ 968 := by rw [e, Nat.succ_mul]; omega
    rw [if_neg (show ¬ nI ((rs.length + 1) * c) ≤ Int32.ofNat (mx * c) from nI_ge h9 (by omega)), decide_eq_true e]
theorem t_remove_neg {T : Tab} {x : Int32} (hx : x < 0) : fX4_remove T x = some T := by
  rw [fX4_remove, if_pos hx]
theorem t_remove {c mx : Nat} {T : Tab} {rs : List Row} {i : Nat} (h : TL c mx T rs) (d : TD c mx) (hi : i < rs.length) : ∃ T', fX4_remove T (nI i) = some T' ∧ TL c mx T' (rs.eraseIdx i) := by
  have hb := tl_big d
  obtain ⟨h1, h2, h3, h4, h5, h6⟩ := h
  obtain ⟨d0, d1, d2⟩ := d
  have hrc := Nat.mul_le_mul_right c h4
  have hic := Nat.mul_le_mul_right c (show i + 1 ≤ rs.length from hi)
  have hsm : (i + 1) * c = i * c + c := Nat.succ_mul i c
  have e1 : ¬ nI i < 0 := nI_pos (by omega)
  have e2 : ¬ nI rs.length ≤ nI i := nI_ge hi (by omega)
  have a1 : nI rs.length * nI c = nI (rs.length * c) := pk_mul _ _
  have a2 : (nI i + 1) * nI c = nI ((i + 1) * c) := by rw [nI_1, pk_mul]
  have a3 : nI ((i + 1) * c) - nI c = nI (i * c) := by rw [pk_sub (by omega)]; congr 1; omega
  have a4 : nI (rs.length * c) - nI ((i + 1) * c) = nI (rs.length * c - (i + 1) * c) := pk_sub hic
  have e3 : nI (rs.length * c) ≤ Int32.ofNat (mx * c) := nI_le hrc (by omega)
  have c1 : (nI ((i + 1) * c)).toNatClampNeg = (i + 1) * c := nI_clamp (by omega)
  have c2 : (nI (i * c)).toNatClampNeg = i * c := nI_clamp (by omega)
  have c3 : (nI (rs.length * c - (i + 1) * c)).toNatClampNeg = rs.length * c - (i + 1) * c := nI_clamp (by omega)
  refine ⟨(T.1, T.2.1, va_cpy T.2.2.1 T.2.2.1 ((i + 1) * c) (i * c) (rs.length * c - (i + 1) * c), T.2.2.2 - 1), ?_, h1, h2, ?_, ?_, ?_, fun q hq => ?_⟩
  · rw [fX4_remove, if_neg e1, h3, if_neg e2, h1, a1, h2, if_pos e3, a2, a3, a4, c1, c2, c3, if_pos ⟨nI_pos (by omega), nI_pos (by omega), nI_pos (by omega), by omega, by omega⟩]
  · show T.2.2.2 - 1 = _
    rw [h3, List.length_eraseIdx, if_pos hi]
    obtain ⟨n, hn⟩ : ∃ n, rs.length = n + 1 := ⟨rs.length - 1, by omega⟩
    rw [hn, nI_pred]; rfl
  · rw [List.length_eraseIdx, if_pos hi]; omega
  · intro i' r' hr'
    show _ ∧ ∀ j, j < c → va_cpy T.2.2.1 T.2.2.1 ((i + 1) * c) (i * c) (rs.length * c - (i + 1) * c) (i' * c + j) = _
    rw [List.getElem?_eraseIdx] at hr'
    by_cases hii : i' < i
    · rw [if_pos hii] at hr'
      obtain ⟨k1, k2⟩ := h5 i' r' hr'
      refine ⟨k1, fun j hj => ?_⟩
      have := Nat.mul_le_mul_right c (show i' + 1 ≤ i from hii); rw [Nat.succ_mul] at this
      rw [pk_cpy_out (Or.inl (by omega)), k2 j hj]
    · rw [if_neg hii] at hr'
      obtain ⟨k1, k2⟩ := h5 (i' + 1) r' hr'
      refine ⟨k1, fun j hj => ?_⟩
      have hl := tl_lt hr'
      have q1 := Nat.mul_le_mul_right c (show i ≤ i' by omega)
      have q2 := Nat.mul_le_mul_right c (show i' + 1 + 1 ≤ rs.length from hl)
      rw [Nat.succ_mul, Nat.succ_mul] at q2
      have e : (i + 1) * c + (i' * c + j - i * c) = (i' + 1) * c + j := by rw [Nat.succ_mul, Nat.succ_mul]; omega
      rw [pk_cpy_in (by omega) (by omega), e, k2 j hj]
  · show va_cpy T.2.2.1 T.2.2.1 ((i + 1) * c) (i * c) (rs.length * c - (i + 1) * c) q = 0
    rw [pk_cpy_out (Or.inr (by omega)), h6 q hq]
/-- filling -/
theorem t_fillL (fu bn : Nat) (p2 p3 : Int32) (n : Nat) (hp : p2 = nI n) (hn : n ≤ bn) (hb : bn < 2 ^ 31) : ∀ (k : Nat) (bf : Nat → Int32) (i : Nat), i ≤ n → n - i < k → ∃ g, fJ7_fill_fda19_L10 fu bn p2 p3 k bf (nI i) = some g ∧ ∀ q, g q = if i ≤ q ∧ q < n then p3 else bf q
  | 0, bf, i, hi, hk => by omega
  | k + 1, bf, i, hi, hk => by
    rw [fJ7_fill_fda19_L10, hp]
    rcases Nat.lt_or_ge i n with q | q
    · rw [if_neg (nI_ge q (by omega)), if_pos (show ¬ (nI i < 0 ∨ bn ≤ (nI i).toNatClampNeg) from vp_in_nI (by omega) hb), nI_clamp (by omega), nI_1]
      obtain ⟨g, hg, hv⟩ := t_fillL fu bn p2 p3 n hp hn hb k (upd bf i p3) (i + 1) q (by omega)
      rw [hp] at hg
      refine ⟨g, hg, fun z => ?_⟩
      rw [hv z]
      by_cases hz : z = i
      · subst hz; rw [if_neg (by omega), pk_us, if_pos (by omega)]
      · rw [pk_un hz]
        by_cases hz2 : i + 1 ≤ z ∧ z < n
        · rw [if_pos hz2, if_pos (by omega)]
        · rw [if_neg hz2, if_neg (by omega)]
    · have e : i = n := by omega
      subst e
      rw [if_pos (nI_le (Nat.le_refl _) (by omega))]
      exact ⟨bf, rfl, fun z => by rw [if_neg (by omega)]⟩
theorem t_fill {fu bn a b : Nat} {bf : Nat → Int32} {v : Int32} (hab : a ≤ b) (hb : b ≤ bn) (hbn : bn < 2 ^ 31) (hf : b - a < fu) : ∃ g, fJ7_fill_fda19 fu bn bf (nI a) (nI b) v = some g ∧ ∀ q, g q = if a ≤ q ∧ q < b then v else bf q := by
  obtain ⟨g, h1, h2⟩ := t_fillL fu bn (nI b) v b rfl hb hbn fu bf a hab hf
  refine ⟨g, ?_, h2⟩
  rw [fJ7_fill_fda19, fJ7_rangeCheck_23922, if_pos (nI_le hab (by omega)), if_pos (nI_pos' (by omega)), if_pos (show nI b ≤ Int32.ofNat bn from nI_le hb hbn)]
  exact h1
theorem t_insert {fu c mx : Nat} {T : Tab} {rs : List Row} {i : Nat} (h : TL c mx T rs) (d : TD c mx) (hi : i ≤ rs.length) (hm : rs.length < mx) (hf : 8 < fu) : ∃ T', fX4_insert fu T (nI i) = some T' ∧ TL c mx T' (rs.insertIdx i (List.replicate c 0)) := by
  have hb := tl_big d
  obtain ⟨h1, h2, h3, h4, h5, h6⟩ := h
  obtain ⟨d0, d1, d2⟩ := d
  have hrc := Nat.mul_le_mul_right c (show rs.length + 1 ≤ mx from hm)
  have hsr : (rs.length + 1) * c = rs.length * c + c := Nat.succ_mul _ c
  have hic := Nat.mul_le_mul_right c hi
  have e1 : ¬ nI i < 0 := nI_pos (by omega)
  have e2 : ¬ nI rs.length < nI i := nI_nlt hi (by omega)
  have a1 : nI rs.length * nI c = nI (rs.length * c) := pk_mul _ _
  have a2 : nI (rs.length * c) + nI c = nI (rs.length * c + c) := nI_add _ _
  have a3 : nI i * nI c = nI (i * c) := pk_mul _ _
  have a4 : nI (i * c) + nI c = nI (i * c + c) := nI_add _ _
  have a5 : nI (rs.length * c) - nI (i * c) = nI (rs.length * c - i * c) := pk_sub hic
  have e3 : nI (rs.length * c + c) ≤ Int32.ofNat (mx * c) := nI_le (by omega) (by omega)
  have c1 : (nI (i * c)).toNatClampNeg = i * c := nI_clamp (by omega)
  have c2 : (nI (i * c + c)).toNatClampNeg = i * c + c := nI_clamp (by omega)
  have c3 : (nI (rs.length * c - i * c)).toNatClampNeg = rs.length * c - i * c := nI_clamp (by omega)
  obtain ⟨g, hg, hv⟩ := t_fill (fu := fu) (bn := mx * c) (a := i * c) (b := i * c + c) (bf := va_cpy T.2.2.1 T.2.2.1 (i * c) (i * c + c) (rs.length * c - i * c)) (v := 0) (by omega) (by omega) (by omega) (by omega)
  refine ⟨(T.1, T.2.1, g, T.2.2.2 + 1), ?_, h1, h2, ?_, ?_, ?_, fun q hq => ?_⟩
  · rw [fX4_insert, if_neg e1, h3, if_neg e2, h1, a1, a2, h2, if_pos e3, a3, a4, a5, c1, c2, c3, if_pos ⟨nI_pos (by omega), nI_pos (by omega), nI_pos (by omega), by omega, by omega⟩, hg]
    rfl
  · show T.2.2.2 + 1 = _
    rw [h3, List.length_insertIdx_of_le_length hi, nI_1]
  · rw [List.length_insertIdx_of_le_length hi]; omega
  · intro i' r' hr'
    show _ ∧ ∀ j, j < c → g (i' * c + j) = _
    rw [List.getElem?_insertIdx] at hr'
    by_cases hii : i' < i
    · rw [if_pos hii] at hr'
      obtain ⟨k1, k2⟩ := h5 i' r' hr'
      refine ⟨k1, fun j hj => ?_⟩
      have := Nat.mul_le_mul_right c (show i' + 1 ≤ i from hii); rw [Nat.succ_mul] at this
      rw [hv, if_neg (by omega), pk_cpy_out (Or.inl (by omega)), k2 j hj]
    · rw [if_neg hii] at hr'
      by_cases hie : i' = i
      · rw [if_pos hie] at hr'
        split at hr'
        · cases hr'
          refine ⟨List.length_replicate, fun j hj => ?_⟩
          rw [hv, if_pos (by subst hie; omega), gD_eq, List.getElem?_replicate, if_pos hj]; rfl
        · cases hr'
      · rw [if_neg hie] at hr'
        obtain ⟨n, rfl⟩ : ∃ n, i' = n + 1 := ⟨i' - 1, by omega⟩
        rw [Nat.add_sub_cancel] at hr'
        obtain ⟨k1, k2⟩ := h5 n r' hr'
        refine ⟨k1, fun j hj => ?_⟩
        have hl := tl_lt hr'
        have q1 := Nat.mul_le_mul_right c (show i ≤ n by omega)
        have q2 := Nat.mul_le_mul_right c (show n + 1 ≤ rs.length from hl)
        rw [Nat.succ_mul] at q2
        have hsn : (n + 1) * c = n * c + c := Nat.succ_mul _ c
        rw [hv, if_neg (by omega), pk_cpy_in (by omega) (by omega), show i * c + ((n + 1) * c + j - (i * c + c)) = n * c + j by omega, k2 j hj]
  · show g q = 0
    rw [hv, if_neg (by omega), pk_cpy_out (Or.inr (by omega)), h6 q hq]
/-- a table's form: its columns, its room, zeros beyond -/
def TZ (c mx : Nat) (T : Tab) : Prop := T.1 = nI c ∧ T.2.1 = mx * c ∧ ∀ q, mx * c ≤ q → T.2.2.1 q = 0
theorem TL.z {c mx : Nat} {T : Tab} {rs : List Row} (h : TL c mx T rs) : TZ c mx T := ⟨h.1, h.2.1, h.2.2.2.2.2⟩
/-- a copy is the same table, in all its words -/
theorem t_copy {c mx : Nat} {T o : Tab} (h : TZ c mx T) (ho : TZ c mx o) (d : TD c mx) : fX4_copyFrom T o = some o := by
  have hb := tl_big d
  obtain ⟨h1, h2, h3⟩ := h
  obtain ⟨o1, o2, o3⟩ := ho
  have e : (if Int32.ofNat (mx * c) < Int32.ofNat (mx * c) then Int32.ofNat (mx * c) else Int32.ofNat (mx * c)) = nI (mx * c) := by split <;> rfl
  have c1 : (nI (mx * c)).toNatClampNeg = mx * c := nI_clamp (by omega)
  have c0 : (0 : Int32).toNatClampNeg = 0 := rfl
  have e4 : va_cpy o.2.2.1 T.2.2.1 0 0 (mx * c) = o.2.2.1 := by
    funext q
    rcases Nat.lt_or_ge q (mx * c) with hq | hq
    · rw [pk_cpy_in (Nat.zero_le _) (by omega)]; simp
    · rw [pk_cpy_out (Or.inr (by omega)), h3 q hq, o3 q hq]
  rw [fX4_copyFrom, h2, o2, e, c1, c0, if_pos ⟨by decide, by decide, nI_pos (by omega), by omega, by omega⟩, e4, h1]
  show some (nI c, mx * c, o.2.2.1, o.2.2.2) = some (o.1, o.2.1, o.2.2.1, o.2.2.2)
  rw [o1, o2]
