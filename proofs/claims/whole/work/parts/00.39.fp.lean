/-! shares as doubles -/
def nOk : FP.Core.Datum → Prop
  | .nan => False
  | .inf _ => True
  | .fin _ c q => c < 9007199254740992 ∧ q ≤ 971
theorem f_tails : FP.Core.Fmt.tails FP.Core.b64 = 4503599627370496 := by decide
theorem f_exps : FP.Core.Fmt.exps FP.Core.b64 = 2048 := by decide
theorem f_qmin : FP.Core.Fmt.qmin FP.Core.b64 = -1074 := by decide
theorem f_qmax : FP.Core.Fmt.qmax FP.Core.b64 = 971 := by decide
theorem n_enc {d : FP.Core.Datum} (h : nOk d) : FP.Core.encode FP.Core.b64 d % 9223372036854775808 ≤ 9218868437227405312 := by
  cases d with
  | nan => exact absurd h (fun q => q)
  | inf s =>
    unfold FP.Core.encode FP.Core.assemble
    rw [f_tails, f_exps]
    cases s <;> decide
  | fin s c q =>
    obtain ⟨h1, h2⟩ := h
    unfold FP.Core.encode FP.Core.assemble
    simp only [f_tails, f_exps, f_qmin]
    split
    · cases s <;> simp only [Bool.toNat_false, Bool.toNat_true] <;> omega
    · have h3 : (q - -1074).toNat ≤ 2045 := by omega
      generalize (q - -1074).toNat = z at h3
      cases s <;> simp only [Bool.toNat_false, Bool.toNat_true] <;> omega
theorem n_bound (s : Bool) {c : Nat} (q : Int) (h : c < 9007199254740992) : nOk (FP.Core.bound FP.Core.b64 s c q) := by
  unfold FP.Core.bound
  rw [f_qmax]
  split
  · rename_i w; exact ⟨h, w⟩
  · trivial
theorem n_settle (s : Bool) (c : Nat) (q : Int) : nOk (FP.Core.settle FP.Core.b64 s c q) := by
  unfold FP.Core.settle
  split
  · rename_i w; exact n_bound s q w
  · exact n_bound s _ (by rw [f_tails]; decide)
theorem n_ratio (s : Bool) (a b : Nat) (e : Int) : nOk (FP.Core.roundRatio FP.Core.b64 s a b e) := by
  unfold FP.Core.roundRatio
  split
  · exact ⟨by decide, by rw [f_qmin]; decide⟩
  · exact n_settle s _ _
theorem n_ddiv {x y : UInt64} {s t : Bool} {c d : Nat} {q r : Int} (hx : FP.Core.decode FP.Core.b64 x.toNat = .fin s c q) (hy : FP.Core.decode FP.Core.b64 y.toNat = .fin t d r) (hd : d ≠ 0) : FP.ddiv x y &&& 0x7fffffffffffffff ≤ 0x7ff0000000000000 := by
  have h : nOk (FP.Core.quotient FP.Core.b64 (FP.Core.decode FP.Core.b64 x.toNat) (FP.Core.decode FP.Core.b64 y.toNat)) := by
    rw [hx, hy]
    show nOk (if d = 0 then _ else _)
    rw [if_neg hd]
    exact n_ratio _ _ _ _
  have h2 := n_enc h
  rw [UInt64.le_iff_toNat_le, UInt64.toNat_and]
  show (UInt64.ofNat (FP.Core.encode FP.Core.b64 (FP.Core.quotient FP.Core.b64 (FP.Core.decode FP.Core.b64 x.toNat) (FP.Core.decode FP.Core.b64 y.toNat)))).toNat &&& (2 ^ 63 - 1) ≤ 9218868437227405312
  rw [Nat.and_two_pow_sub_one_eq_mod, UInt64.toNat_ofNat']
  omega
def fchk (s : Nat) : Bool := (match FP.Core.decode FP.Core.b64 (FP.i2d (nI s)).toNat with | .fin _ c _ => s == 0 || c != 0 | _ => false) && (decide ((Op.cmpValue (FP.dcmp (FP.i2d (nI s)) FP.dconst0) .l) ≤ 0) == (s == 0))
def chkR (f : Nat → Bool) : Nat → Nat → Bool
  | 0, i => f i
  | d + 1, i => chkR f d (2 * i) && chkR f d (2 * i + 1)
theorem chkR_all {f : Nat → Bool} : ∀ (d i : Nat), chkR f d i = true → ∀ s, s / 2 ^ d = i → f s = true
  | 0, i, h, s, hs => by
    rw [Nat.pow_zero, Nat.div_one] at hs
    rw [hs]; exact h
  | d + 1, i, h, s, hs => by
    rw [chkR, Bool.and_eq_true] at h
    rw [Nat.pow_succ, ← Nat.div_div_eq_div_mul] at hs
    rcases Nat.mod_two_eq_zero_or_one (s / 2 ^ d) with q | q
    · exact chkR_all d (2 * i) h.1 s (by omega)
    · exact chkR_all d (2 * i + 1) h.2 s (by omega)
set_option maxRecDepth 100000 in
theorem fchk_run : chkR fchk 11 0 = true := by decide +kernel
theorem fchk_all {s : Nat} (h : s ≤ 2000) : fchk s = true := chkR_all 11 0 fchk_run s (Nat.div_eq_of_lt (by omega))
theorem f_num {s : Nat} (h : s ≤ 2000) : ∃ t c q, FP.Core.decode FP.Core.b64 (FP.i2d (nI s)).toNat = .fin t c q ∧ (0 < s → c ≠ 0) := by
  have w := fchk_all h
  unfold fchk at w
  rw [Bool.and_eq_true] at w
  have w1 := w.1
  cases hd : FP.Core.decode FP.Core.b64 (FP.i2d (nI s)).toNat with
  | nan => rw [hd] at w1; cases w1
  | inf t => rw [hd] at w1; cases w1
  | fin t c q =>
    refine ⟨t, c, q, rfl, fun h0 e => ?_⟩
    rw [hd] at w1
    simp only [Bool.or_eq_true, beq_iff_eq, bne_iff_ne] at w1
    rcases w1 with z | z
    · omega
    · exact z e
theorem f_cmp {s : Nat} (h : s ≤ 2000) : ((Op.cmpValue (FP.dcmp (FP.i2d (nI s)) FP.dconst0) .l) ≤ 0) ↔ s = 0 := by
  have w := fchk_all h
  unfold fchk at w
  rw [Bool.and_eq_true] at w
  have w2 := w.2
  by_cases z : s = 0
  · rw [z] at w2 ⊢
    simp only [beq_self_eq_true, beq_iff_eq, decide_eq_true_eq] at w2
    exact ⟨fun _ => rfl, fun _ => w2⟩
  · have e : (s == 0) = false := by simp [z]
    rw [e] at w2
    simp only [beq_iff_eq, decide_eq_false_iff_not] at w2
    exact ⟨fun q => absurd q w2, fun q => absurd q z⟩
