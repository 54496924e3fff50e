/-! the law, begun -/
section L62
variable {n : Nat} {sa : Nat → Int32} {es : List Row} {fl : List Nat} {sk : List Row} {ft er li st : Tab} {eb rd tu la sh tb : Int32} {dl : Bool} {fu : Nat}
variable {zft zer zli zst : Tab} {zeb zrd ztu zla zsh ztb : Int32} {zdl : Bool}
variable {gft ger gli gst : Tab} {geb grd gtu gla gsh gtb : Int32} {gdl : Bool}
variable {yc : Int32} {yp : Nat → Nat} {yg : Nat → GV}
variable {xL : Nat} {xs : Nat → Int32} {tx cm : Tab}
theorem l_10s (hxl : xL < 2 ^ 31) (hfu : 2000 < fu) (k i : Nat) (hi : i < 3) (h : GK i ft er li st (-1) sh) (hH : HT yc yp yg) : ∃ ft' yc' yp' yg', GK (i + 1) ft' er li st (-1) sh ∧ (∃ sa, FC ft' sa (i + 1) ∧ stF sa i = true) ∧ HT yc' yp' yg' ∧ fL_law_L10 fu xL xs er eb li st 0 (-1) la dl sh tb zft zer zeb zli zst zrd ztu zla zdl zsh ztb tx cm (k + 1) ft yc yp yg (nI i) = fL_law_L10 fu xL xs er eb li st 0 (-1) la dl sh tb zft zer zeb zli zst zrd ztu zla zdl zsh ztb tx cm k ft' yc' yp' yg' (nI (i + 1)) := by
  obtain ⟨x, e⟩ := cell_ok xs hxl (show i < 2 ^ 31 by omega)
  obtain ⟨c, c1, c2⟩ := low_ok x (m := 30) (by decide) (by decide)
  obtain ⟨w, w1, w2⟩ := low_ok (x >>> ((5 : Int32) &&& 31)) (m := 120) (by decide) (by decide)
  have c2 : fL_low x 30 = some (nI c) := c2
  have w2 : fL_low (x >>> ((5 : Int32) &&& 31)) 120 = some (nI w) := w2
  obtain ⟨ft', r1, r2, r3⟩ := add_ok (eb := eb) (rd := 0) (la := la) (dl := dl) (tb := tb) (fu := fu) (a := 1 + c) (b := 30 + w) h (by omega) (by omega) (by omega) hfu
  obtain ⟨c', yc', yp', yg', s1, s2, -⟩ := save_ok (fu := fu) (eb := eb) (rd := 0) (tu := -1) (la := la) (dl := dl) (sh := sh) (tb := tb) h.z hH hfu
  refine ⟨ft', yc', yp', yg', r1, r2, ⟨_, s2⟩, ?_⟩
  rw [fL_law_L10, if_neg (show ¬ (3 : Int32) ≤ nI i from nI_ge (b := 3) (by omega) (by decide)), e, Option.bind_some, c2, Option.bind_some, w2, Option.bind_some, n1A, n30A, r3 _ _ _ _ _ _ s1, Option.bind_some, if_pos rfl, nS]
theorem l_10 (hxl : xL < 2 ^ 31) (htx : tx.2.2.2 = 0) (hz : GZ zft zer zli zst) (hfu : 2000 < fu) (h : GK 0 ft er li st (-1) sh) (hH : HT yc yp yg) : fL_law_L10 fu xL xs er eb li st 0 (-1) la dl sh tb zft zer zeb zli zst zrd ztu zla zdl zsh ztb tx cm fu ft yc yp yg 0 = some true := by
  obtain ⟨k, hk⟩ : ∃ k, fu = k + 4 := ⟨fu - 4, by omega⟩
  obtain ⟨ft1, yc1, yp1, yg1, a1, a2, a3, a4⟩ := l_10s (fu := fu) (xs := xs) (tx := tx) (cm := cm) (eb := eb) (la := la) (dl := dl) (tb := tb) (zft := zft) (zer := zer) (zli := zli) (zst := zst) (zeb := zeb) (zrd := zrd) (ztu := ztu) (zla := zla) (zdl := zdl) (zsh := zsh) (ztb := ztb) hxl hfu (k + 3) 0 (by decide) h hH
  obtain ⟨ft2, yc2, yp2, yg2, b1, b2, b3, b4⟩ := l_10s (fu := fu) (xs := xs) (tx := tx) (cm := cm) (eb := eb) (la := la) (dl := dl) (tb := tb) (zft := zft) (zer := zer) (zli := zli) (zst := zst) (zeb := zeb) (zrd := zrd) (ztu := ztu) (zla := zla) (zdl := zdl) (zsh := zsh) (ztb := ztb) hxl hfu (k + 2) 1 (by decide) a1 a3
  obtain ⟨ft3, yc3, yp3, yg3, c1, c2, c3, c4⟩ := l_10s (fu := fu) (xs := xs) (tx := tx) (cm := cm) (eb := eb) (la := la) (dl := dl) (tb := tb) (zft := zft) (zer := zer) (zli := zli) (zst := zst) (zeb := zeb) (zrd := zrd) (ztu := ztu) (zla := zla) (zdl := zdl) (zsh := zsh) (ztb := ztb) hxl hfu (k + 1) 2 (by decide) b1 b3
  have d := l_10b (xs := xs) (cm := cm) (eb := eb) (la := la) (dl := dl) (tb := tb) (zeb := zeb) (zrd := zrd) (ztu := ztu) (zla := zla) (zdl := zdl) (zsh := zsh) (ztb := ztb) hxl htx hz hfu k c1 c2 c3
  have e := a4.trans (b4.trans (c4.trans d))
  have e : fL_law_L10 fu xL xs er eb li st 0 (-1) la dl sh tb zft zer zeb zli zst zrd ztu zla zdl zsh ztb tx cm (k + 4) ft yc yp yg 0 = some true := e
  rw [← hk] at e
  exact e
end L62
theorem tl_init {c mx : Nat} : TL c mx ((nI c, mx * c, fun _ => 0, (0 : Int32)) : Tab) [] := ⟨rfl, rfl, rfl, Nat.zero_le _, fun i r hr => by simp at hr, fun _ _ => rfl⟩
/-- the law is true of every text of numbers -/
theorem law_true {xL : Nat} (xs : Nat → Int32) (hxl : xL < 2 ^ 31) : fL_law 5000 xL xs ((4, 40, fun _ => 0, 0) : Tab) ((8, 240, fun _ => 0, 0) : Tab) 0 ((2, 20, fun _ => 0, 0) : Tab) ((7, 56, fun _ => 0, 0) : Tab) 0 (-1) (-1) false 10 0 ((4, 40, fun _ => 0, 0) : Tab) ((8, 240, fun _ => 0, 0) : Tab) 0 ((2, 20, fun _ => 0, 0) : Tab) ((7, 56, fun _ => 0, 0) : Tab) 0 (-1) (-1) false 10 0 0 (fun i => i) (fun _ => gInit) ((1, 120, fun _ => 0, 0) : Tab) ((3, 180, fun _ => 0, 0) : Tab) = some true := by
  have t4 : TL 4 10 ((4, 40, fun _ => 0, 0) : Tab) [] := tl_init (c := 4) (mx := 10)
  have t8 : TL 8 30 ((8, 240, fun _ => 0, 0) : Tab) [] := tl_init (c := 8) (mx := 30)
  have t2 : TL 2 10 ((2, 20, fun _ => 0, 0) : Tab) [] := tl_init (c := 2) (mx := 10)
  have t7 : TL 7 8 ((7, 56, fun _ => 0, 0) : Tab) [] := tl_init (c := 7) (mx := 8)
  have hz : GVZ gInit := ⟨t4.z, t8.z, t2.z, t7.z⟩
  have hG : GK 0 ((4, 40, fun _ => 0, 0) : Tab) ((8, 240, fun _ => 0, 0) : Tab) ((2, 20, fun _ => 0, 0) : Tab) ((7, 56, fun _ => 0, 0) : Tab) (-1) 10 := ⟨fun _ => 0, [], [], [], ⟨⟨t4, Nat.zero_le _⟩, t8, t2, t7, fun f hf => absurd hf (Nat.not_lt_zero f), ⟨fun r hr => (by cases hr), List.Pairwise.nil⟩, ⟨⟨Nat.zero_le _, fun f hf => (by cases hf)⟩, List.nodup_nil, fun f hf => (by cases hf)⟩, fun r hr => (by cases hr)⟩, Or.inl ⟨rfl, rfl⟩, 10, by decide, by decide, rfl⟩
  rw [fL_law]
  exact l_10 hxl rfl hz (by decide) hG ⟨0, by decide, rfl, fun i hi => hi, fun i j _ _ e => e, fun j _ => hz, fun i hi => absurd hi (Nat.not_lt_zero i)⟩
