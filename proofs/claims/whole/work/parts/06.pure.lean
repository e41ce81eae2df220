/-! what both sides count: days, levels, hiccups -/
def dyD (f : Nat → Int32) (n o fr h : Nat) : Int32 := if h = fr then 4 else if o ≤ h ∧ h - o < n then f (h - o) else 0
def lvB (e : Nat → Int32) (c : Int32) (d : Nat → Int32) : Nat → Int32
  | 0 => c
  | h + 1 => nxt e (lvB e c d h) (d h)
def btB (mk : Int32) (e : Nat → Int32) (c : Int32) (d : Nat → Int32) : Nat → Int32
  | 0 => 0
  | h + 1 => btB mk e c d h ||| (if hicB mk (lvB e c d (h + 1)) (d h) then 1 <<< (nI h &&& 31) else 0)
theorem dyD_in {f : Nat → Int32} {n o fr : Nat} (hf : ∀ k, k < n → vp_in (f k) 7) (h : Nat) : vp_in (dyD f n o fr h) 7 := by
  unfold dyD
  split
  · exact vp_in_nI (n := 4) (by decide) (by decide)
  · split
    · rename_i q
      exact hf _ q.2
    · exact vp_in_nI (n := 0) (by decide) (by decide)
theorem nI_neg1 {n : Nat} (h : n < 2 ^ 31) : ¬ nI n = -1 := by
  rw [fa_eq, nI_toInt h]
  have : (-1 : Int32).toInt = -1 := by decide
  omega
theorem fltF_all {f : Nat → Int32} : ∀ (n i : Nat), i + n < 2 ^ 31 → fltF f i n = -1 → ∀ k, k < n → ¬ f (i + k) = -1 := by
  intro n
  induction n with
  | zero => intro i _ _ k hk; omega
  | succ n ih =>
    intro i hi h k hk
    rw [fltF] at h
    split at h
    · exact absurd h (nI_neg1 (by omega))
    · rename_i q
      cases k with
      | zero => exact q
      | succ k =>
        have := ih (i + 1) (by omega) h k (by omega)
        rwa [show i + 1 + k = i + (k + 1) by omega] at this
theorem dishBy_in {b : Int32} (h : ¬ dishBy b = -1) : vp_in (dishBy b) 7 := by
  unfold dishBy at h ⊢
  repeat' split
  all_goals first | (unfold vp_in; decide) | (exfalso; simp_all; done)
/-! the reference's own rows: what stays, what is read -/
def scM (q : Nat) : Bool := q == 6 || q == 7 || q == 8 || q == 9 || q == 10 || q == 18
def pM (mu : ab_mem) : ab_mem := fun q => if scM q then (fun _ => 0) else mu q
theorem pM_up {mu : ab_mem} {q k : Nat} {x : Int32} (h : scM q = true) : pM (ab_up mu q k x) = pM mu := by
  funext a
  simp only [pM]
  split
  · rfl
  · rename_i ha
    rw [ab_up_o]
    intro e
    rw [e] at ha
    exact ha h
theorem pM_at {mu mu2 : ab_mem} (h : pM mu2 = pM mu) (q : Nat) (hq : scM q = false) : mu2 q = mu q := by
  have := congrFun h q
  simpa [pM, hq] using this
def nM (mu : ab_mem) (g : Nat) : Nat := (mu 1 g).toNatClampNeg
def fM (mu : ab_mem) (g : Nat) : Nat → Int32 := fun k => dishBy (mu 2 (24 * g + k))
def tM (mu : ab_mem) (g : Nat) : Nat := tolM mu g (nM mu g)
def dM (mu : ab_mem) (g o fr : Nat) : Nat → Int32 := dyD (fM mu g) (tM mu g) o fr
def lM (mu : ab_mem) (g o fr : Nat) : Nat → Int32 := lvB (mu 4) (mu 3 g) (dM mu g o fr)
def bM (mu : ab_mem) (g o fr : Nat) : Nat → Int32 := btB (mu 0 5) (mu 4) (mu 3 g) (dM mu g o fr)
def IM (mu : ab_mem) : Prop := (∀ g, g < 3 → mu 1 g = nI (nM mu g) ∧ nM mu g ≤ 24) ∧ (∀ g, g < 3 → ∃ c, c ≤ 9 ∧ mu 3 g = nI c) ∧ (∃ k, k ≤ 8 ∧ mu 0 13 = nI k) ∧ (∀ k, k < 8 → ∃ g, g < 3 ∧ mu 11 k = nI g) ∧ (∀ k, k < 8 → ∃ h, h < 24 ∧ mu 12 k = nI h) ∧ (∀ k, k < 8 → ∃ b, mu 13 k = bI b) ∧ (∀ s, s < 4 → ∃ n, n ≤ 48 ∧ mu 16 s = nI n) ∧ (∀ s, s < 4 → ∃ b, mu 14 s = bI b)
theorem IM_p {mu mu2 : ab_mem} (h : pM mu2 = pM mu) (i : IM mu) : IM mu2 := by
  show IM (pM mu2)
  rw [h]
  exact i
theorem dM_p {mu mu2 : ab_mem} (h : pM mu2 = pM mu) : dM mu2 = dM mu := by
  show dM (pM mu2) = dM (pM mu)
  rw [h]
theorem lM_p {mu mu2 : ab_mem} (h : pM mu2 = pM mu) : lM mu2 = lM mu := by
  show lM (pM mu2) = lM (pM mu)
  rw [h]
theorem bM_p {mu mu2 : ab_mem} (h : pM mu2 = pM mu) : bM mu2 = bM mu := by
  show bM (pM mu2) = bM (pM mu)
  rw [h]
theorem tM_p {mu mu2 : ab_mem} (h : pM mu2 = pM mu) : tM mu2 = tM mu := by
  show tM (pM mu2) = tM (pM mu)
  rw [h]
theorem tM_le {mu : ab_mem} (i : IM mu) {g : Nat} (hg : g < 3) : tM mu g ≤ 24 := by
  have := (i.1 g hg).2
  unfold tM tolM
  split <;> omega
theorem fM_in {mu : ab_mem} (i : IM mu) {g : Nat} (hg : g < 3) : ∀ k, k < tM mu g → vp_in (fM mu g k) 7 := by
  intro k hk
  have h24 := (i.1 g hg).2
  unfold tM tolM at hk
  split at hk
  · rename_i q
    have := fltF_all (f := fun k => dishBy (mu 2 (24 * g + k))) (nM mu g) 0 (by omega) q k hk
    rw [Nat.zero_add] at this
    exact dishBy_in this
  · omega
theorem dM_in {mu : ab_mem} (i : IM mu) {g : Nat} (hg : g < 3) (o fr h : Nat) : vp_in (dM mu g o fr h) 7 := dyD_in (fM_in i hg) h
/-- what laying the days leaves -/
def LA (mu mu2 : ab_mem) : Prop := pM mu2 = pM mu ∧ ∀ g, g < 3 → (∀ h, h < 24 → mu2 6 (24 * g + h) = dM mu g 0 99 h) ∧ (∀ h, h < 24 → mu2 7 (24 * g + h) = lM mu g 0 99 (h + 1)) ∧ mu2 8 g = bM mu g 0 99 24
/-- what laying one general's day leaves, n hours of it -/
def LY (mu : ab_mem) (g o fr n : Nat) (mu2 : ab_mem) : Prop := pM mu2 = pM mu ∧ (∀ h, h < n → mu2 6 (24 * g + h) = dM mu g o fr h) ∧ (∀ h, h < n → mu2 7 (24 * g + h) = lM mu g o fr (h + 1)) ∧ mu2 8 g = bM mu g o fr n ∧ (∀ g2, g2 < 3 → g2 ≠ g → (∀ h, h < 24 → mu2 6 (24 * g2 + h) = mu 6 (24 * g2 + h) ∧ mu2 7 (24 * g2 + h) = mu 7 (24 * g2 + h)) ∧ mu2 8 g2 = mu 8 g2)
theorem LY_step {mu mu1 : ab_mem} {g o fr j : Nat} {x l b : Int32} (hg : g < 3) (hj : j < 24) (h : LY mu g o fr j mu1) (hx : x = dM mu g o fr j) (hl : l = lM mu g o fr (j + 1)) (hb : b = bM mu g o fr (j + 1)) : LY mu g o fr (j + 1) (ab_up (ab_up (ab_up mu1 6 (24 * g + j) x) 7 (24 * g + j) l) 8 g b) := by
  obtain ⟨h1, h2, h3, h4, h5⟩ := h
  refine ⟨by rw [pM_up rfl, pM_up rfl, pM_up rfl, h1], fun h hh => ?_, fun h hh => ?_, by rw [ab_up_k, hb], fun g2 hg2 hne => ⟨fun h hh => ?_, ?_⟩⟩
  · rw [ab_up_o (by decide), ab_up_o (by decide), ab_up_s]
    by_cases e : h = j
    · rw [e, pk_us, hx]
    · rw [pk_un (by omega)]; exact h2 h (by omega)
  · rw [ab_up_o (by decide), ab_up_s]
    by_cases e : h = j
    · rw [e, pk_us, hl]
    · rw [pk_un (by omega), ab_up_o (by decide)]; exact h3 h (by omega)
  · rw [ab_up_o (by decide), ab_up_o (by decide), ab_up_s, pk_un (by omega), ab_up_o (by decide), ab_up_s, pk_un (by omega), ab_up_o (by decide)]
    exact (h5 g2 hg2 hne).1 h hh
  · rw [ab_up_s, pk_un hne, ab_up_o (by decide), ab_up_o (by decide)]
    exact (h5 g2 hg2 hne).2
