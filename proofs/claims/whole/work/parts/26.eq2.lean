/-! the two worlds, side by side -/
def RR (x m : ab_mem) : Prop := (IX x ∧ IM m ∧ PO (m 5)) ∧ (x 5 = m 4 ∧ x 6 = m 5) ∧ (x 4 2 = m 0 5 ∧ x 4 3 = m 0 6 ∧ x 4 4 = m 0 7) ∧ (inB (x 4 3) 0 2 = true ∧ inB (x 4 4) 0 126 = true) ∧ (∀ g, g < 3 → x (19 + 2 * g) 3 = m 3 g ∧ x (19 + 2 * g) 1 = m 1 g ∧ ∀ k, k < nM m g → x (20 + 2 * g) k = dishBy (m 2 (24 * g + k))) ∧ (x 8 = m 11 ∧ x 9 = m 12 ∧ x 10 = m 13 ∧ x 7 3 = m 0 13) ∧ (∀ s, s < 4 → (∃ b, x (34 + 2 * s) 3 = bI b ∧ m 14 s = bI (!b)) ∧ x (34 + 2 * s) 1 = m 15 s ∧ x (34 + 2 * s) 2 = m 16 s ∧ ∀ k, k < 48 → x (35 + 2 * s) k = m 17 (48 * s + k)) ∧ x 0 8 = m 0 22
theorem RR_p {x x2 m m2 : ab_mem} (hp : pX x2 = pX x) (hq : pM m2 = pM m) (h : RR x m) : RR x2 m2 := by
  obtain ⟨⟨h1, h2, h3⟩, ⟨h4, h5⟩, ⟨h6, h7, h8⟩, ⟨h9, h10⟩, h11, ⟨h12, h13, h14, h15⟩, h16, h17⟩ := h
  refine ⟨⟨IX_p hp h1, IM_p hq h2, by rw [pM_at hq 5 rfl]; exact h3⟩, ⟨?_, ?_⟩, ⟨?_, ?_, ?_⟩, ⟨?_, ?_⟩, fun g hg => ?_, ⟨?_, ?_, ?_, ?_⟩, fun s hs => ?_, ?_⟩
  · rw [pX_at hp 5 rfl, pM_at hq 4 rfl]; exact h4
  · rw [pX_at hp 6 rfl, pM_at hq 5 rfl]; exact h5
  · rw [pX_at hp 4 rfl, pM_at hq 0 rfl]; exact h6
  · rw [pX_at hp 4 rfl, pM_at hq 0 rfl]; exact h7
  · rw [pX_at hp 4 rfl, pM_at hq 0 rfl]; exact h8
  · rw [pX_at hp 4 rfl]; exact h9
  · rw [pX_at hp 4 rfl]; exact h10
  · have e : nM m2 g = nM m g := by unfold nM; rw [pM_at hq 1 rfl]
    rw [e, pX_at hp _ (scG hg).1, pX_at hp _ (scG hg).2, pM_at hq 1 rfl, pM_at hq 2 rfl, pM_at hq 3 rfl]; exact h11 g hg
  · rw [pX_at hp 8 rfl, pM_at hq 11 rfl]; exact h12
  · rw [pX_at hp 9 rfl, pM_at hq 12 rfl]; exact h13
  · rw [pX_at hp 10 rfl, pM_at hq 13 rfl]; exact h14
  · rw [pX_at hp 7 rfl, pM_at hq 0 rfl]; exact h15
  · rw [pX_at hp _ (scS hs).1, pX_at hp _ (scS hs).2, pM_at hq 14 rfl, pM_at hq 15 rfl, pM_at hq 16 rfl, pM_at hq 17 rfl]; exact h16 s hs
  · rw [pX_at hp 0 rfl, pM_at hq 0 rfl]; exact h17
theorem fltF_congr {f f2 : Nat → Int32} : ∀ n i, (∀ k, k < n → f (i + k) = f2 (i + k)) → fltF f i n = fltF f2 i n := by
  intro n
  induction n with
  | zero => intro i _; rfl
  | succ n ih =>
    intro i h
    have h0 : f i = f2 i := h 0 (by omega)
    rw [fltF, fltF, h0, ih (i + 1) (fun k hk => by have := h (k + 1) (by omega); rwa [show i + (k + 1) = i + 1 + k by omega] at this)]
section EQ
variable {x m : ab_mem}
theorem R_ix (h : RR x m) : IX x := h.1.1
theorem R_im (h : RR x m) : IM m := h.1.2.1
theorem R_po (h : RR x m) : PO (m 5) := h.1.2.2
theorem R_e (h : RR x m) : x 5 = m 4 := h.2.1.1
theorem R_pr (h : RR x m) : x 6 = m 5 := h.2.1.2
theorem R_mk (h : RR x m) : x 4 2 = m 0 5 := h.2.2.1.1
theorem R_lw (h : RR x m) : x 4 3 = m 0 6 := h.2.2.1.2.1
theorem R_fb (h : RR x m) : x 4 4 = m 0 7 := h.2.2.1.2.2
theorem R_lwb (h : RR x m) : inB (x 4 3) 0 2 = true := h.2.2.2.1.1
theorem R_fbb (h : RR x m) : inB (x 4 4) 0 126 = true := h.2.2.2.1.2
theorem R_g (h : RR x m) {g : Nat} (hg : g < 3) : x (19 + 2 * g) 3 = m 3 g ∧ x (19 + 2 * g) 1 = m 1 g ∧ ∀ k, k < nM m g → x (20 + 2 * g) k = dishBy (m 2 (24 * g + k)) := h.2.2.2.2.1 g hg
theorem R_si (h : RR x m) : x 8 = m 11 ∧ x 9 = m 12 ∧ x 10 = m 13 ∧ x 7 3 = m 0 13 := h.2.2.2.2.2.1
theorem R_sh (h : RR x m) {s : Nat} (hs : s < 4) : (∃ b, x (34 + 2 * s) 3 = bI b ∧ m 14 s = bI (!b)) ∧ x (34 + 2 * s) 1 = m 15 s ∧ x (34 + 2 * s) 2 = m 16 s ∧ ∀ k, k < 48 → x (35 + 2 * s) k = m 17 (48 * s + k) := h.2.2.2.2.2.2.1 s hs
theorem R_fi (h : RR x m) : x 0 8 = m 0 22 := h.2.2.2.2.2.2.2
theorem n_eq (h : RR x m) {g : Nat} (hg : g < 3) : nX x g = nM m g := by unfold nX nM; rw [(R_g h hg).2.1]
theorem flt_eq (h : RR x m) {g : Nat} (hg : g < 3) : x (19 + 2 * g) 2 = fltF (fM m g) 0 (nM m g) := by
  rw [((R_ix h).1 g hg).2.2.1, n_eq h hg]
  refine fltF_congr _ _ (fun k hk => ?_)
  rw [Nat.zero_add]
  exact (R_g h hg).2.2 k hk
theorem t_eq (h : RR x m) {g : Nat} (hg : g < 3) : tX x g = tM m g := by
  unfold tX tM tolM
  rw [flt_eq h hg, n_eq h hg]
  rfl
theorem d_eq (h : RR x m) {g : Nat} (hg : g < 3) : dX x g = dM m g := by
  funext o fr k
  unfold dX dM dyD
  rw [t_eq h hg]
  by_cases e : k = fr
  · rw [if_pos e, if_pos e]
  · rw [if_neg e, if_neg e]
    by_cases c : o ≤ k ∧ k - o < tM m g
    · rw [if_pos c, if_pos c]
      have := tX_n (mu := x) (g := g)
      rw [t_eq h hg, n_eq h hg] at this
      exact (R_g h hg).2.2 _ (by omega)
    · rw [if_neg c, if_neg c]
theorem l_eq (h : RR x m) {g : Nat} (hg : g < 3) : lX x g = lM m g := by
  funext o fr
  unfold lX lM
  rw [d_eq h hg, R_e h, (R_g h hg).1]
theorem b_eq (h : RR x m) {g : Nat} (hg : g < 3) : bX x g = bM m g := by
  funext o fr
  unfold bX bM
  rw [d_eq h hg, R_e h, (R_g h hg).1, R_mk h]
theorem bM_24 {g o fr : Nat} : B24 (bM m g o fr 24) := btB_24
theorem inB_2 {w : Int32} (h : inB w 0 2 = true) : w = 0 ∨ w = 1 ∨ w = 2 := by
  obtain ⟨g, hg, rfl⟩ := inB_of 2 (by decide) h
  rcases (show g = 0 ∨ g = 1 ∨ g = 2 by omega) with rfl | rfl | rfl
  · exact Or.inl rfl
  · exact Or.inr (Or.inl rfl)
  · exact Or.inr (Or.inr rfl)
theorem bk_eq (h : RR x m) {w : Int32} (hw : inB w 0 2 = true) : bkX x w = bkM m w := by
  unfold bkX bkM brk
  rw [b_eq h (g := 0) (by decide), b_eq h (g := 1) (by decide)]
  rcases inB_2 hw with rfl | rfl | rfl
  · rw [if_neg (by decide), if_neg (by decide), if_pos rfl]
  · rw [if_pos rfl, if_neg (by decide), if_pos rfl]
  · rw [if_neg (by decide), if_pos rfl, if_neg (by decide), if_neg (by decide), B24_mask]
    exact B24_or (B24_or (B24_and bM_24) (B24_and bM_24)) (B24_and bM_24)
theorem bkn_eq (h : RR x m) : bkX x (x 4 3) = bkM m (m 0 6) := by rw [bk_eq h (R_lwb h), R_lw h]
theorem ch_eq (h : RR x m) {g : Nat} (hg : g < 3) : chX x g = chM m g := by
  funext k
  unfold chX chM
  rw [l_eq h hg, d_eq h hg]
theorem cn_eq (h : RR x m) {g : Nat} (hg : g < 3) : cNX x g = cN m g := by
  funext k
  unfold cNX cN
  rw [ch_eq h hg]
theorem o_eq (h : RR x m) {a : Nat} : ∀ n, oTX x a n = oT m a n := by
  intro n
  induction n with
  | zero => rfl
  | succ n ih => rw [oTX, oT, ih, cn_eq h (g := 0) (by decide), cn_eq h (g := 1) (by decide)]
theorem k_eq (h : RR x m) : kX x = kM m := by unfold kX kM; rw [(R_si h).2.2.2]
theorem ag_eq (h : RR x m) {g : Nat} (hg : g < 3) : agX x g = agM m g := by
  funext j
  unfold agX agM
  rw [b_eq h hg, k_eq h, (R_si h).1, (R_si h).2.1, (R_si h).2.2.1]
theorem us_eq (h : RR x m) : usX x 3 = ulF (m 11) (m 12) (m 13) (fun g => bM m g 0 99 24) (kM m) := by
  obtain ⟨-, -, h3, h4, h5, h6, -, -⟩ := R_ix h
  rw [← un_split (who := m 11) (hr := m 12) (is := m 13) (b := fun g => bM m g 0 99 24) (kM m) (by rw [← k_eq h]; exact h3.1) (by rw [← (R_si h).1]; exact h4) (by rw [← (R_si h).2.1]; exact h5) (by rw [← (R_si h).2.2.1]; exact h6)]
  show 0 + _ + _ + _ = _
  rw [b_eq h (g := 0) (by decide), b_eq h (g := 1) (by decide), b_eq h (g := 2) (by decide), k_eq h, (R_si h).1, (R_si h).2.1, (R_si h).2.2.1]
  rw [show ∀ p : Int32, 0 + p = p from fun p => by simp]
theorem lk_eq (h : RR x m) {g : Nat} (hg : g < 3) : lkX3 x g = lkM m g := by
  funext k
  unfold lkX3 lkX2 lkM
  rw [b_eq h hg, b_eq h (g := 2) (by decide), bcF_ones (B24_xor bM_24 bM_24)]
theorem lk_pos {g : Nat} : -1 < lkM m g 0 := by
  unfold lkM
  obtain ⟨k, hk, e⟩ := ones_le (x := bM m g 0 99 24 ^^^ bM m 2 0 99 24) (B24_xor bM_24 bM_24)
  rw [e, show (24 : Int32) = nI 24 from rfl, pk_sub hk, fa_lt, nI_toInt (by omega)]
  show (-1 : Int) < _
  omega
theorem tr_eq2 (h : RR x m) {g : Nat} (hg : g < 3) : trX (lkX3 x g) 24 = trM (lkM m g) 24 := by
  rw [lk_eq h hg]
  exact tr_eq lk_pos 23
theorem ps_congr {pr f f2 : Nat → Int32} : ∀ n, (∀ k, k < n → f k = f2 k) → psF pr f n = psF pr f2 n := by
  intro n
  induction n with
  | zero => intro _; rfl
  | succ n ih => intro h; rw [psF, psF, ih (fun k hk => h k (by omega)), h n (by omega)]
theorem ps_eq (h : RR x m) {g : Nat} (hg : g < 3) : psX x g = psM m g := by
  unfold psX psM
  rw [R_pr h, t_eq h hg]
  refine ps_congr _ (fun k hk => ?_)
  have := tX_n (mu := x) (g := g)
  rw [t_eq h hg, n_eq h hg] at this
  exact (R_g h hg).2.2 _ (by omega)
theorem fb_24 (h : RR x m) : B24 (x 4 4) := by
  obtain ⟨g, hg, e⟩ := inB_of 126 (by decide) (R_fbb h)
  rw [e]
  intro i h1 h2
  show (BitVec.ofNat 32 g).getLsbD i = false
  rw [BitVec.getLsbD_ofNat, Nat.testBit_lt_two_pow (Nat.lt_of_lt_of_le (show g < 2 ^ 24 by omega) (Nat.pow_le_pow_right (by decide) h1))]
  simp
theorem cnt_eq (h : RR x m) (j : Nat) : cntX x j = cntM m j := by
  unfold cntX cntM
  rw [ps_eq h (g := 0) (by decide), ps_eq h (g := 1) (by decide), bcF_ones (fb_24 h), R_mk h, R_lw h, R_fb h, R_fi h, (R_si h).2.2.2]
  split
  · rename_i hj; rw [t_eq h hj]
  · rfl
theorem lv_eq (h : RR x m) {g : Nat} (hg : g < 3) : lvX x g = lvN m g := by
  funext k
  unfold lvX lvN
  rw [l_eq h hg]
theorem led_eq (h : RR x m) {g hr : Nat} (hg : g < 3) (hh : hr < 24) : (if hicB (x 4 2) (lX x g 0 99 (hr + 1)) (dX x g 0 99 hr) then (ldF (x 4 2) (lX x g 0 99) hr) else -3) = (if bitB (bM m g 0 99 24) (nI hr) then ldF (m 0 5) (lM m g 0 99) hr else -3) := by
  rw [bitB_bt (by omega), show bM m g 0 99 24 = btB (m 0 5) (m 4) (m 3 g) (dM m g 0 99) 24 from rfl, bt_btB 24 (by decide) hr (by omega), l_eq h hg, d_eq h hg, R_mk h]
  simp only [hh, decide_true, Bool.true_and]
  rfl
end EQ
