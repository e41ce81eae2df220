/-! how the two worlds stay side by side -/
theorem dishBy_or (b : Int32) : dishBy b = -1 ∨ vp_in (dishBy b) 7 := by
  by_cases h : dishBy b = -1
  · exact Or.inl h
  · exact Or.inr (dishBy_in h)
section UPD
variable {x m x2 m2 : ab_mem}
theorem RR_gen (h : RR x m) {g n c : Nat} (hg : g < 3) (hx : ∀ q, q ≠ 19 + 2 * g → q ≠ 20 + 2 * g → x2 q = x q) (hm : ∀ q, q ≠ 1 → q ≠ 2 → q ≠ 3 → m2 q = m q) (ho : ∀ a, a < 3 → a ≠ g → m2 1 a = m 1 a ∧ m2 3 a = m 3 a ∧ ∀ k, k < 24 → m2 2 (24 * a + k) = m 2 (24 * a + k)) (hn : n ≤ 24) (hc : c ≤ 9) (e1 : x2 (19 + 2 * g) 1 = nI n) (e2 : m2 1 g = nI n) (e3 : x2 (19 + 2 * g) 3 = nI c) (e4 : m2 3 g = nI c) (e5 : ∀ k, k < n → x2 (20 + 2 * g) k = dishBy (m2 2 (24 * g + k))) (e6 : x2 (19 + 2 * g) 2 = fltF (x2 (20 + 2 * g)) 0 n) : RR x2 m2 := by
  obtain ⟨⟨⟨i1, i2, i3, i4, i5, i6, i7, i8⟩, ⟨j1, j2, j3, j4, j5, j6, j7, j8⟩, h3⟩, ⟨h4, h5⟩, ⟨h6, h7, h8⟩, ⟨h9, h10⟩, h11, ⟨h12, h13, h14, h15⟩, h16, h17⟩ := h
  have nx : nX x2 g = n := by unfold nX; rw [e1, nI_clamp (by omega)]
  have nm : nM m2 g = n := by unfold nM; rw [e2, nI_clamp (by omega)]
  have xo : ∀ a, a < 3 → a ≠ g → x2 (19 + 2 * a) = x (19 + 2 * a) ∧ x2 (20 + 2 * a) = x (20 + 2 * a) := fun a ha hne => ⟨hx _ (by omega) (by omega), hx _ (by omega) (by omega)⟩
  have x0 : ∀ q, q < 19 → x2 q = x q := fun q hq => hx q (by omega) (by omega)
  have xs : ∀ q, 25 ≤ q → x2 q = x q := fun q hq => hx q (by omega) (by omega)
  refine ⟨⟨⟨fun a ha => ?_, fun a ha => ?_, ?_, ?_, ?_, ?_, fun s hs => ?_, fun s hs => ?_⟩, ⟨fun a ha => ?_, fun a ha => ?_, ?_, ?_, ?_, ?_, ?_, ?_⟩, ?_⟩, ⟨?_, ?_⟩, ⟨?_, ?_, ?_⟩, ⟨?_, ?_⟩, fun a ha => ?_, ⟨?_, ?_, ?_, ?_⟩, fun s hs => ?_, ?_⟩
  · by_cases e : a = g
    · subst e
      rw [nx]
      refine ⟨e1, hn, e6, fun k hk => ?_⟩
      show x2 (20 + 2 * a) k = -1 ∨ _
      unfold fX
      rw [e5 k hk]
      exact dishBy_or _
    · obtain ⟨q1, q2⟩ := xo a ha e
      unfold nX fX
      rw [q1, q2]
      exact i1 a ha
  · by_cases e : a = g
    · subst e; exact ⟨c, hc, e3⟩
    · rw [(xo a ha e).1]; exact i2 a ha
  · unfold kX; rw [x0 7 (by decide)]; exact i3
  · rw [x0 8 (by decide)]; exact i4
  · rw [x0 9 (by decide)]; exact i5
  · rw [x0 10 (by decide)]; exact i6
  · rw [xs _ (by omega)]; exact i7 s hs
  · rw [xs _ (by omega)]; exact i8 s hs
  · by_cases e : a = g
    · subst e; rw [nm]; exact ⟨e2, hn⟩
    · unfold nM; rw [(ho a ha e).1]; exact j1 a ha
  · by_cases e : a = g
    · subst e; exact ⟨c, hc, e4⟩
    · rw [(ho a ha e).2.1]; exact j2 a ha
  · rw [hm 0 (by decide) (by decide) (by decide)]; exact j3
  · rw [hm 11 (by decide) (by decide) (by decide)]; exact j4
  · rw [hm 12 (by decide) (by decide) (by decide)]; exact j5
  · rw [hm 13 (by decide) (by decide) (by decide)]; exact j6
  · rw [hm 16 (by decide) (by decide) (by decide)]; exact j7
  · rw [hm 14 (by decide) (by decide) (by decide)]; exact j8
  · rw [hm 5 (by decide) (by decide) (by decide)]; exact h3
  · rw [x0 5 (by decide), hm 4 (by decide) (by decide) (by decide)]; exact h4
  · rw [x0 6 (by decide), hm 5 (by decide) (by decide) (by decide)]; exact h5
  · rw [x0 4 (by decide), hm 0 (by decide) (by decide) (by decide)]; exact h6
  · rw [x0 4 (by decide), hm 0 (by decide) (by decide) (by decide)]; exact h7
  · rw [x0 4 (by decide), hm 0 (by decide) (by decide) (by decide)]; exact h8
  · rw [x0 4 (by decide)]; exact h9
  · rw [x0 4 (by decide)]; exact h10
  · by_cases e : a = g
    · subst e
      rw [nm]
      exact ⟨by rw [e3, e4], by rw [e1, e2], e5⟩
    · obtain ⟨q1, q2⟩ := xo a ha e
      obtain ⟨o1, o2, o3⟩ := ho a ha e
      have en : nM m2 a = nM m a := by unfold nM; rw [o1]
      rw [en, q1, q2, o1, o2]
      refine ⟨(h11 a ha).1, (h11 a ha).2.1, fun k hk => ?_⟩
      rw [o3 k (by have := (j1 a ha).2; omega)]
      exact (h11 a ha).2.2 k hk
  · rw [x0 8 (by decide), hm 11 (by decide) (by decide) (by decide)]; exact h12
  · rw [x0 9 (by decide), hm 12 (by decide) (by decide) (by decide)]; exact h13
  · rw [x0 10 (by decide), hm 13 (by decide) (by decide) (by decide)]; exact h14
  · rw [x0 7 (by decide), hm 0 (by decide) (by decide) (by decide)]; exact h15
  · rw [xs (34 + 2 * s) (by omega), xs (35 + 2 * s) (by omega), hm 14 (by decide) (by decide) (by decide), hm 15 (by decide) (by decide) (by decide), hm 16 (by decide) (by decide) (by decide), hm 17 (by decide) (by decide) (by decide)]; exact h16 s hs
  · rw [x0 0 (by decide), hm 0 (by decide) (by decide) (by decide)]; exact h17
theorem RR_sheet (h : RR x m) {s z : Nat} {b : Bool} (hs : s < 4) (hx : ∀ q, q ≠ 34 + 2 * s → q ≠ 35 + 2 * s → x2 q = x q) (hm : ∀ q, q ≠ 14 → q ≠ 15 → q ≠ 16 → q ≠ 17 → m2 q = m q) (ho : ∀ a, a < 4 → a ≠ s → m2 14 a = m 14 a ∧ m2 15 a = m 15 a ∧ m2 16 a = m 16 a ∧ ∀ k, k < 48 → m2 17 (48 * a + k) = m 17 (48 * a + k)) (hz : z ≤ 48) (e1 : x2 (34 + 2 * s) 3 = bI b) (e2 : m2 14 s = bI (!b)) (e3 : x2 (34 + 2 * s) 1 = m2 15 s) (e4 : x2 (34 + 2 * s) 2 = nI z) (e5 : m2 16 s = nI z) (e6 : ∀ k, k < 48 → x2 (35 + 2 * s) k = m2 17 (48 * s + k)) : RR x2 m2 := by
  obtain ⟨⟨⟨i1, i2, i3, i4, i5, i6, i7, i8⟩, ⟨j1, j2, j3, j4, j5, j6, j7, j8⟩, h3⟩, ⟨h4, h5⟩, ⟨h6, h7, h8⟩, ⟨h9, h10⟩, h11, ⟨h12, h13, h14, h15⟩, h16, h17⟩ := h
  have xo : ∀ a, a < 4 → a ≠ s → x2 (34 + 2 * a) = x (34 + 2 * a) ∧ x2 (35 + 2 * a) = x (35 + 2 * a) := fun a ha hne => ⟨hx _ (by omega) (by omega), hx _ (by omega) (by omega)⟩
  have x0 : ∀ q, q < 34 → x2 q = x q := fun q hq => hx q (by omega) (by omega)
  have mo : ∀ q, q < 14 → m2 q = m q := fun q hq => hm q (by omega) (by omega) (by omega) (by omega)
  refine ⟨⟨⟨fun a ha => ?_, fun a ha => ?_, ?_, ?_, ?_, ?_, fun a ha => ?_, fun a ha => ?_⟩, ⟨fun a ha => ?_, fun a ha => ?_, ?_, ?_, ?_, ?_, fun a ha => ?_, fun a ha => ?_⟩, ?_⟩, ⟨?_, ?_⟩, ⟨?_, ?_, ?_⟩, ⟨?_, ?_⟩, fun a ha => ?_, ⟨?_, ?_, ?_, ?_⟩, fun a ha => ?_, ?_⟩
  · unfold nX fX; rw [x0 (19 + 2 * a) (by omega), x0 (20 + 2 * a) (by omega)]; exact i1 a ha
  · rw [x0 (19 + 2 * a) (by omega)]; exact i2 a ha
  · unfold kX; rw [x0 7 (by decide)]; exact i3
  · rw [x0 8 (by decide)]; exact i4
  · rw [x0 9 (by decide)]; exact i5
  · rw [x0 10 (by decide)]; exact i6
  · by_cases e : a = s
    · subst e; exact ⟨z, hz, e4⟩
    · rw [(xo a ha e).1]; exact i7 a ha
  · by_cases e : a = s
    · subst e; exact ⟨b, e1⟩
    · rw [(xo a ha e).1]; exact i8 a ha
  · unfold nM; rw [mo 1 (by decide)]; exact j1 a ha
  · rw [mo 3 (by decide)]; exact j2 a ha
  · rw [mo 0 (by decide)]; exact j3
  · rw [mo 11 (by decide)]; exact j4
  · rw [mo 12 (by decide)]; exact j5
  · rw [mo 13 (by decide)]; exact j6
  · by_cases e : a = s
    · subst e; exact ⟨z, hz, e5⟩
    · rw [(ho a ha e).2.2.1]; exact j7 a ha
  · by_cases e : a = s
    · subst e; exact ⟨_, e2⟩
    · rw [(ho a ha e).1]; exact j8 a ha
  · rw [mo 5 (by decide)]; exact h3
  · rw [x0 5 (by decide), mo 4 (by decide)]; exact h4
  · rw [x0 6 (by decide), mo 5 (by decide)]; exact h5
  · rw [x0 4 (by decide), mo 0 (by decide)]; exact h6
  · rw [x0 4 (by decide), mo 0 (by decide)]; exact h7
  · rw [x0 4 (by decide), mo 0 (by decide)]; exact h8
  · rw [x0 4 (by decide)]; exact h9
  · rw [x0 4 (by decide)]; exact h10
  · have en : nM m2 a = nM m a := by unfold nM; rw [mo 1 (by decide)]
    rw [en, x0 (19 + 2 * a) (by omega), x0 (20 + 2 * a) (by omega), mo 1 (by decide), mo 2 (by decide), mo 3 (by decide)]; exact h11 a ha
  · rw [x0 8 (by decide), mo 11 (by decide)]; exact h12
  · rw [x0 9 (by decide), mo 12 (by decide)]; exact h13
  · rw [x0 10 (by decide), mo 13 (by decide)]; exact h14
  · rw [x0 7 (by decide), mo 0 (by decide)]; exact h15
  · by_cases e : a = s
    · subst e; exact ⟨⟨b, e1, e2⟩, e3, by rw [e4, e5], e6⟩
    · obtain ⟨q1, q2⟩ := xo a ha e
      obtain ⟨o1, o2, o3, o4⟩ := ho a ha e
      rw [q1, q2, o1, o2, o3]
      refine ⟨(h16 a ha).1, (h16 a ha).2.1, (h16 a ha).2.2.1, fun k hk => ?_⟩
      rw [o4 k hk]
      exact (h16 a ha).2.2.2 k hk
  · rw [x0 0 (by decide), mo 0 (by decide)]; exact h17
theorem RR_rest (h : RR x m) {k : Nat} (hx : ∀ q, 19 ≤ q → x2 q = x q) (hm : ∀ q, q = 1 ∨ q = 2 ∨ q = 3 ∨ q = 14 ∨ q = 15 ∨ q = 16 ∨ q = 17 → m2 q = m q) (e1 : PO (m2 5)) (e2 : x2 5 = m2 4) (e3 : x2 6 = m2 5) (e4 : x2 4 2 = m2 0 5) (e5 : x2 4 3 = m2 0 6) (e6 : x2 4 4 = m2 0 7) (e7 : inB (x2 4 3) 0 2 = true) (e8 : inB (x2 4 4) 0 126 = true) (hk : k ≤ 8) (e9 : x2 7 3 = nI k) (e10 : m2 0 13 = nI k) (f1 : x2 8 = m2 11) (f2 : x2 9 = m2 12) (f3 : x2 10 = m2 13) (g1 : ∀ k, k < 8 → ∃ g, g < 3 ∧ x2 8 k = nI g) (g2 : ∀ k, k < 8 → ∃ h, h < 24 ∧ x2 9 k = nI h) (g3 : ∀ k, k < 8 → ∃ b, x2 10 k = bI b) (e11 : x2 0 8 = m2 0 22) : RR x2 m2 := by
  obtain ⟨⟨⟨i1, i2, i3, i4, i5, i6, i7, i8⟩, ⟨j1, j2, j3, j4, j5, j6, j7, j8⟩, h3⟩, ⟨h4, h5⟩, ⟨h6, h7, h8⟩, ⟨h9, h10⟩, h11, ⟨h12, h13, h14, h15⟩, h16, h17⟩ := h
  refine ⟨⟨⟨fun a ha => ?_, fun a ha => ?_, ?_, g1, g2, g3, fun a ha => ?_, fun a ha => ?_⟩, ⟨fun a ha => ?_, fun a ha => ?_, ⟨k, hk, e10⟩, ?_, ?_, ?_, fun a ha => ?_, fun a ha => ?_⟩, e1⟩, ⟨e2, e3⟩, ⟨e4, e5, e6⟩, ⟨e7, e8⟩, fun a ha => ?_, ⟨f1, f2, f3, by rw [e9, e10]⟩, fun a ha => ?_, e11⟩
  · unfold nX fX; rw [hx (19 + 2 * a) (by omega), hx (20 + 2 * a) (by omega)]; exact i1 a ha
  · rw [hx (19 + 2 * a) (by omega)]; exact i2 a ha
  · have : kX x2 = k := by unfold kX; rw [e9, nI_clamp (by omega)]
    rw [this]; exact ⟨hk, e9⟩
  · rw [hx (34 + 2 * a) (by omega)]; exact i7 a ha
  · rw [hx (34 + 2 * a) (by omega)]; exact i8 a ha
  · unfold nM; rw [hm 1 (by decide)]; exact j1 a ha
  · rw [hm 3 (by decide)]; exact j2 a ha
  · rw [← f1]; exact g1
  · rw [← f2]; exact g2
  · rw [← f3]; exact g3
  · rw [hm 16 (by decide)]; exact j7 a ha
  · rw [hm 14 (by decide)]; exact j8 a ha
  · have en : nM m2 a = nM m a := by unfold nM; rw [hm 1 (by decide)]
    rw [en, hx (19 + 2 * a) (by omega), hx (20 + 2 * a) (by omega), hm 1 (by decide), hm 2 (by decide), hm 3 (by decide)]; exact h11 a ha
  · rw [hx (34 + 2 * a) (by omega), hx (35 + 2 * a) (by omega), hm 14 (by decide), hm 15 (by decide), hm 16 (by decide), hm 17 (by decide)]; exact h16 a ha
end UPD
