/-! worlds in blocks -/
def wG (cI : ClassId) (a0 a1 a2 a3 a4 a5 a6 a7 a8 a9 : Nat) (ft er : Tab) (eb : Int32) (li st : Tab) (rd tu la : Int32) (dl : Bool) (sh tb : Int32) : va_W :=
  [(a0, .inr (1, [.ref a1, .ref a3, .ref a6, .ref a8, .int rd, .int tu, .int la, .int (bI dl), .int sh, .int tb])), (a1, .inr (4, [.int ft.1, .ref a2, .int ft.2.2.2])), (a2, .inl (cI, ft.2.1, .inl ft.2.2.1)), (a3, .inr (0, [.ref a4, .int eb])), (a4, .inr (4, [.int er.1, .ref a5, .int er.2.2.2])), (a5, .inl (cI, er.2.1, .inl er.2.2.1)), (a6, .inr (4, [.int li.1, .ref a7, .int li.2.2.2])), (a7, .inl (cI, li.2.1, .inl li.2.2.1)), (a8, .inr (4, [.int st.1, .ref a9, .int st.2.2.2])), (a9, .inl (cI, st.2.1, .inl st.2.2.1))]
def wGV (cI : ClassId) (a0 a1 a2 a3 a4 a5 a6 a7 a8 a9 : Nat) (g : GV) : va_W := wG cI a0 a1 a2 a3 a4 a5 a6 a7 a8 a9 g.1 g.2.1 g.2.2.1 g.2.2.2.1 g.2.2.2.2.1 g.2.2.2.2.2.1 g.2.2.2.2.2.2.1 g.2.2.2.2.2.2.2.1 g.2.2.2.2.2.2.2.2.1 g.2.2.2.2.2.2.2.2.2.1 g.2.2.2.2.2.2.2.2.2.2
def wS (cI : ClassId) (a0 a1 a2 a3 a4 : Nat) (tx cm : Tab) : va_W :=
  [(a0, .inr (3, [.ref a1, .ref a3])), (a1, .inr (4, [.int tx.1, .ref a2, .int tx.2.2.2])), (a2, .inl (cI, tx.2.1, .inl tx.2.2.1)), (a3, .inr (4, [.int cm.1, .ref a4, .int cm.2.2.2])), (a4, .inl (cI, cm.2.1, .inl cm.2.2.1))]
abbrev bxs (cI cG : ClassId) (a : Nat → Nat) (yc : Int32) (yp : Nat → Nat) (yg : Nat → GV) : List va_W :=
  [[(a 0, .inr (2, [.ref (a 1), .int yc]))], [(a 1, .inl (cG, 4, .inr (.inr (.inr (.inr (hRefs (a 2) (a 12) (a 22) (a 32) yp))))))], wGV cI (a 2) (a 3) (a 4) (a 5) (a 6) (a 7) (a 8) (a 9) (a 10) (a 11) (yg 0), wGV cI (a 12) (a 13) (a 14) (a 15) (a 16) (a 17) (a 18) (a 19) (a 20) (a 21) (yg 1), wGV cI (a 22) (a 23) (a 24) (a 25) (a 26) (a 27) (a 28) (a 29) (a 30) (a 31) (yg 2), wGV cI (a 32) (a 33) (a 34) (a 35) (a 36) (a 37) (a 38) (a 39) (a 40) (a 41) (yg 3)]
def wH (cI cG : ClassId) (a : Nat → Nat) (yc : Int32) (yp : Nat → Nat) (yg : Nat → GV) : va_W := (bxs cI cG a yc yp yg).flatten
def bx_put : List va_W → List Nat → List va_W → List va_W
  | bs, i :: is, e :: es => bx_put (bs.set i e) is es
  | bs, [], _ => bs
  | bs, _ :: _, [] => bs
theorem bx_put_get : ∀ (is : List Nat) (es : List va_W) (ws : List va_W) (k : Nat) (q : va_W), is.length = es.length → (bx_put ws is es)[k]? = some q → (k ∉ is ∧ ws[k]? = some q) ∨ q ∈ es
  | [], es, ws, k, q, _, h => Or.inl ⟨by simp, by simpa [bx_put] using h⟩
  | i :: is, [], ws, k, q, hl, h => by simp at hl
  | i :: is, e :: es, ws, k, q, hl, h => by
    rcases bx_put_get is es (ws.set i e) k q (by simpa using hl) (by simpa [bx_put] using h) with ⟨h1, h2⟩ | hj
    · by_cases hki : i = k
      · subst hki
        rw [List.getElem?_set_self'] at h2
        cases hw : ws[i]? with
        | none => rw [hw] at h2; simp at h2
        | some z => rw [hw] at h2; simp at h2; exact Or.inr (by rw [← h2]; exact List.mem_cons_self)
      · rw [List.getElem?_set_ne hki] at h2
        exact Or.inl ⟨by simp only [List.mem_cons, not_or]; exact ⟨fun h => hki h.symm, h1⟩, h2⟩
    · exact Or.inr (List.mem_cons_of_mem _ hj)
theorem bx_Pmem {G : va_G} {cl : List vw_C} {ws : va_W} {H : Heap} : va_P G cl ws H ↔ ∀ q ∈ ws, va_at G cl q H := by
  constructor
  · intro h q hq
    obtain ⟨k, hk, e⟩ := List.mem_iff_getElem.mp hq
    exact h k q (by rw [List.getElem?_eq_getElem hk, e])
  · intro h k q hq
    exact h q (List.mem_of_getElem? hq)
theorem bx_Dmem {A : Nat → Prop} {ws : va_W} : va_D A ws ↔ (ws.map (fun q => q.1)).Nodup ∧ ∀ q ∈ ws, A q.1 := by
  constructor
  · intro h
    refine ⟨?_, fun q hq => ?_⟩
    · rw [List.Nodup, List.pairwise_iff_getElem]
      intro i j hi hj hij e
      rw [List.length_map] at hi hj
      rw [List.getElem_map, List.getElem_map] at e
      have := h.1 i j _ _ (List.getElem?_eq_getElem hi) (List.getElem?_eq_getElem hj) e
      omega
    · obtain ⟨k, hk, e⟩ := List.mem_iff_getElem.mp hq
      exact h.2 k q (by rw [List.getElem?_eq_getElem hk, e])
  · rintro ⟨h1, h2⟩
    refine ⟨fun i j p q hi hj e => ?_, fun k q hq => h2 q (List.mem_of_getElem? hq)⟩
    rw [List.Nodup, List.pairwise_iff_getElem] at h1
    obtain ⟨li, ei⟩ := List.getElem?_eq_some_iff.mp hi
    obtain ⟨lj, ej⟩ := List.getElem?_eq_some_iff.mp hj
    rcases Nat.lt_trichotomy i j with g | g | g
    · exact absurd (by rw [List.getElem_map, List.getElem_map, ei, ej]; exact e) (h1 i j (by rw [List.length_map]; exact li) (by rw [List.length_map]; exact lj) g)
    · exact g
    · exact absurd (by rw [List.getElem_map, List.getElem_map, ei, ej]; exact e.symm) (h1 j i (by rw [List.length_map]; exact lj) (by rw [List.length_map]; exact li) g)
theorem bx_sub {A0 : Nat → Prop} {G : va_G} {cl : List vw_C} {bs c0 : List va_W} {w0 : va_W} {H : Heap} (hP : va_P G cl bs.flatten H) (hD : va_D A0 bs.flatten) (isC : List Nat) (hC : isC.map (fun i => bs[i]?) = c0.map some) (hw : c0.flatten = w0) (hnd : va_nd isC = true) : va_P G cl w0 H ∧ va_D A0 w0 := by
  subst hw
  have hm : ∀ b ∈ c0, b ∈ bs := by
    intro b hb
    have : some b ∈ isC.map (fun i => bs[i]?) := by rw [hC]; exact List.mem_map_of_mem hb
    obtain ⟨i, -, hi⟩ := List.mem_map.mp this
    exact List.mem_of_getElem? hi
  constructor
  · rw [bx_Pmem] at hP ⊢
    intro q hq
    obtain ⟨b, hb, hqb⟩ := List.mem_flatten.mp hq
    exact hP q (List.mem_flatten.mpr ⟨b, hm b hb, hqb⟩)
  · rw [bx_Dmem] at hD ⊢
    refine ⟨?_, fun q hq => ?_⟩
    · rw [List.map_flatten, List.Nodup, List.pairwise_flatten]
      have h1 := hD.1
      rw [List.map_flatten, List.Nodup, List.pairwise_flatten] at h1
      refine ⟨?_, ?_⟩
      · intro l hl
        obtain ⟨b, hb, rfl⟩ := List.mem_map.mp hl
        exact h1.1 _ (List.mem_map_of_mem (hm b hb))
      · rw [List.pairwise_map, List.pairwise_iff_getElem]
        intro i j hi hj hij
        have hp := h1.2
        rw [List.pairwise_map, List.pairwise_iff_getElem] at hp
        have hlen : isC.length = c0.length := by
          have := congrArg List.length hC
          simpa using this
        have gi : bs[isC[i]'(by omega)]? = some c0[i] := by
          have := congrArg (fun l => l[i]?) hC
          simpa [List.getElem?_map, List.getElem?_eq_getElem hi, List.getElem?_eq_getElem (show i < isC.length by omega)] using this
        have gj : bs[isC[j]'(by omega)]? = some c0[j] := by
          have := congrArg (fun l => l[j]?) hC
          simpa [List.getElem?_map, List.getElem?_eq_getElem hj, List.getElem?_eq_getElem (show j < isC.length by omega)] using this
        have hne : isC[i]'(by omega) ≠ isC[j]'(by omega) := by
          intro e
          have := va_nd_inj isC hnd i j _ (List.getElem?_eq_getElem (by omega)) (by rw [e]; exact List.getElem?_eq_getElem (by omega))
          omega
        obtain ⟨li, ei⟩ := List.getElem?_eq_some_iff.mp gi
        obtain ⟨lj, ej⟩ := List.getElem?_eq_some_iff.mp gj
        rcases Nat.lt_or_gt_of_ne hne with g | g
        · have := hp _ _ li lj g
          rw [ei, ej] at this
          exact this
        · have := hp _ _ lj li g
          rw [ei, ej] at this
          exact fun x h1 y h2 e => this y h2 x h1 e.symm
    · obtain ⟨b, hb, hqb⟩ := List.mem_flatten.mp hq
      exact hD.2 q (List.mem_flatten.mpr ⟨b, hm b hb, hqb⟩)
theorem bx_repl {A0 : Nat → Prop} {G : va_G} {cl : List vw_C} {bs c0 c1 bs2 : List va_W} {w0 w1 : va_W} {H H1 : Heap} (hP : va_P G cl bs.flatten H) (hD : va_D A0 bs.flatten) (isC : List Nat) (hC : isC.map (fun i => bs[i]?) = c0.map some) (hw : c0.flatten = w0)
    (hk : ∀ q : Nat, q < H.size → ¬ va_A w0 H.size q → H1[q]? = H[q]?) (hP1 : va_P G cl w1 H1) (hw1 : c1.flatten = w1) (hlen : isC.length = c1.length) (h2 : bx_put bs isC c1 = bs2) (hf : bs2.map (fun b => b.map (fun q => q.1)) = bs.map (fun b => b.map (fun q => q.1))) : va_P G cl bs2.flatten H1 ∧ va_D A0 bs2.flatten := by
  subst h2 hw hw1
  have hfl : (bx_put bs isC c1).flatten.map (fun q => q.1) = bs.flatten.map (fun q => q.1) := by
    rw [List.map_flatten, List.map_flatten, hf]
  have hD' := bx_Dmem.mp hD
  constructor
  · rw [bx_Pmem]
    intro q hq
    obtain ⟨b, hb, hqb⟩ := List.mem_flatten.mp hq
    obtain ⟨k, hkl, hkb⟩ := List.mem_iff_getElem.mp hb
    rcases bx_put_get isC c1 bs k b hlen (by rw [List.getElem?_eq_getElem hkl, hkb]) with ⟨h1, h3⟩ | hj
    · have hqf : q ∈ bs.flatten := List.mem_flatten.mpr ⟨b, List.mem_of_getElem? h3, hqb⟩
      obtain ⟨z, hz, ez⟩ := List.mem_iff_getElem.mp hqf
      have hlt : q.1 < H.size := vx_lt hP (k := z) (by rw [List.getElem?_eq_getElem hz, ez])
      refine ((bx_Pmem.mp hP) q hqf).kept (hk q.1 hlt ?_)
      rintro (⟨j, e, hj⟩ | hz2)
      · have hm : (q.1, e) ∈ c0.flatten := List.mem_of_getElem? hj
        obtain ⟨b2, hb2, hq2⟩ := List.mem_flatten.mp hm
        have hs : some b2 ∈ isC.map (fun i => bs[i]?) := by rw [hC]; exact List.mem_map_of_mem hb2
        obtain ⟨i, hi, hib⟩ := List.mem_map.mp hs
        have hne : i ≠ k := fun e => h1 (e ▸ hi)
        have hn := hD'.1
        rw [List.map_flatten, List.Nodup, List.pairwise_flatten] at hn
        have hp := hn.2
        rw [List.pairwise_map, List.pairwise_iff_getElem] at hp
        obtain ⟨li, ei⟩ := List.getElem?_eq_some_iff.mp hib
        obtain ⟨lk, ek⟩ := List.getElem?_eq_some_iff.mp h3
        have m1 : q.1 ∈ b2.map (fun q => q.1) := List.mem_map.mpr ⟨_, hq2, rfl⟩
        have m2 : q.1 ∈ b.map (fun q => q.1) := List.mem_map.mpr ⟨_, hqb, rfl⟩
        rcases Nat.lt_or_gt_of_ne hne with g | g
        · have h9 := hp _ _ li lk g
          rw [ei, ek] at h9
          exact h9 q.1 m1 q.1 m2 rfl
        · have h9 := hp _ _ lk li g
          rw [ei, ek] at h9
          exact h9 q.1 m2 q.1 m1 rfl
      · exact absurd hlt (Nat.not_lt.mpr hz2)
    · exact (bx_Pmem.mp hP1) q (List.mem_flatten.mpr ⟨b, hj, hqb⟩)
  · rw [bx_Dmem]
    refine ⟨by rw [hfl]; exact hD'.1, fun q hq => ?_⟩
    have : q.1 ∈ bs.flatten.map (fun q => q.1) := by rw [← hfl]; exact List.mem_map.mpr ⟨q, hq, rfl⟩
    obtain ⟨q', hq', e⟩ := List.mem_map.mp this
    rw [← e]
    exact hD'.2 q' hq'
