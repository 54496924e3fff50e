/-! the beginning -/
def cs0 : CS := (((4, 40, fun _ => 0, 0) : Tab), ((8, 240, fun _ => 0, 0) : Tab), 0, ((2, 20, fun _ => 0, 0) : Tab), ((7, 56, fun _ => 0, 0) : Tab), 0, (-1), (-1), false, 10, 0, ((4, 40, fun _ => 0, 0) : Tab), ((8, 240, fun _ => 0, 0) : Tab), 0, ((2, 20, fun _ => 0, 0) : Tab), ((7, 56, fun _ => 0, 0) : Tab), 0, (-1), (-1), false, 10, 0, 0, (fun i => i), (fun _ => gInit), ((1, 120, fun _ => 0, 0) : Tab), ((3, 180, fun _ => 0, 0) : Tab))
def ms0 : MS := (0, sInit, (fun _ => 0), (fun _ => 0), 0, (fun _ => 0), 0, 0, 0, 0, 0, 0)
theorem tl_nil (c mx : Nat) (f : Nat → Int32) : TL c mx ((nI c, mx * c, f, 0) : Tab) [] := ⟨rfl, rfl, rfl, Nat.zero_le _, fun i r hr => by simp at hr⟩
theorem tz_nil (c mx : Nat) (f : Nat → Int32) : TZ c mx ((nI c, mx * c, f, 0) : Tab) := ⟨rfl, rfl⟩
theorem z_init : GZ ((4, 40, fun _ => 0, 0) : Tab) ((8, 240, fun _ => 0, 0) : Tab) ((2, 20, fun _ => 0, 0) : Tab) ((7, 56, fun _ => 0, 0) : Tab) := ⟨tz_nil 4 10 _, tz_nil 8 30 _, tz_nil 2 10 _, tz_nil 7 8 _⟩
theorem g_init : GI 0 [] [] [] ((4, 40, fun _ => 0, 0) : Tab) ((8, 240, fun _ => 0, 0) : Tab) 0 ((2, 20, fun _ => 0, 0) : Tab) ((7, 56, fun _ => 0, 0) : Tab) 0 (-1) (-1) false 10 0 sInit 0 := by
  have s0 : sInit 0 = 0 := by decide
  have s1 : sInit 1 = 0 := by decide
  have s2 : sInit 2 = 10 := by decide
  have s3 : sInit 3 = 0 := by decide
  have s4 : sInit 4 = -1 := by decide
  have s6 : sInit 6 = 0 := by decide
  have s7 : sInit 7 = -1 := by decide
  have s8 : sInit 8 = 0 := by decide
  have s9 : sInit 9 = 0 := by decide
  have s10 : sInit 10 = 0 := by decide
  have s11 : sInit 11 = 0 := by decide
  refine ⟨⟨⟨tl_nil 4 10 _, Nat.zero_le _⟩, tl_nil 8 30 _, tl_nil 2 10 _, tl_nil 7 8 _⟩, ⟨s11.symm, s3.symm, s4.symm, s7.symm, s2.symm, s9.symm⟩, fun f hf => absurd hf (Nat.not_lt_zero f), ⟨s0, Nat.zero_le _⟩, ⟨⟨s1, Nat.zero_le _, fun i r hr => by simp at hr⟩, ⟨List.Pairwise.nil, fun r hr => (by cases hr), fun r hr => (by cases hr)⟩, ?_, 0, Nat.le_refl _, s11, fun r hr => by cases hr⟩, ⟨⟨s6, Nat.zero_le _, fun k f hk => by simp at hk⟩, ⟨Nat.zero_le _, fun f hf => by cases hf⟩, List.nodup_nil, fun f hf => absurd hf (Nat.not_lt_zero f)⟩, fun f hf => absurd hf (Nat.not_lt_zero f), ⟨⟨s8, Nat.zero_le _, fun i r hr => by simp at hr⟩, fun r hr => by cases hr⟩, ⟨0, Nat.le_refl _, s3, fun _ => rfl⟩, fun f hf => absurd hf (Nat.not_lt_zero f), ⟨Or.inl ⟨s4, rfl⟩, fun q => absurd rfl q, Or.inl s7⟩⟩
  unfold endSum
  rw [s10, s11]
  rfl
theorem inv0 : Inv 512 cs0 ms0 :=
  ⟨0, by decide, ⟨0, [], [], [], g_init⟩, z_init, ⟨0, Nat.zero_le _, rfl, rfl, fun i hi => hi, fun i j _ _ e => e, fun j _ => z_init, fun i hi => absurd hi (Nat.not_lt_zero i)⟩, ⟨[], tl_nil 1 120 _, rfl, fun i b hb => by simp at hb, fun b hb => by cases hb⟩, tz_nil 3 60 _⟩
