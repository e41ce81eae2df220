/-! pure rows for the methods that write -/
theorem upd_k {f : Nat → Int32} {k : Nat} {v : Int32} : upd f k v k = v := by simp [upd]
theorem upd_n {f : Nat → Int32} {k j : Nat} {v : Int32} (h : j ≠ k) : upd f k v j = f j := by simp [upd, h]
theorem up_n {mu : ab_mem} {q k j : Nat} {v : Int32} (h : j ≠ k) : ab_up mu q k v q j = mu q j := by rw [ab_up_s, upd_n h]
theorem row_s {mu : ab_mem} {q : Nat} {f : Nat → Int32} : ab_row mu q f q = f := by simp [ab_row]
theorem row_o {mu : ab_mem} {q a : Nat} {f : Nat → Int32} (h : a ≠ q) : ab_row mu q f a = mu a := by simp [ab_row, h]
theorem flt_snoc {f : Nat → Int32} : ∀ n i, i + n < 2 ^ 31 → fltF f i (n + 1) = if fltF f i n = -1 then (if f (i + n) = -1 then nI (i + n) else -1) else fltF f i n := by
  intro n
  induction n with
  | zero => intro i _; rw [fltF, fltF, if_pos rfl]; rfl
  | succ n ih =>
    intro i hi
    rw [fltF]
    by_cases h : f i = -1
    · rw [if_pos h, fltF, if_pos h, if_neg (nI_neg1 (by omega))]
    · rw [if_neg h, ih (i + 1) (by omega), fltF, if_neg h, show i + 1 + n = i + (n + 1) by omega]
theorem flt_lt {f : Nat → Int32} : ∀ n i, fltF f i n = -1 ∨ ∃ k, k < n ∧ fltF f i n = nI (i + k) := by
  intro n
  induction n with
  | zero => intro i; exact Or.inl rfl
  | succ n ih =>
    intro i
    rw [fltF]
    by_cases h : f i = -1
    · rw [if_pos h]; exact Or.inr ⟨0, by omega, rfl⟩
    · rw [if_neg h]
      rcases ih (i + 1) with q | ⟨k, hk, q⟩
      · exact Or.inl q
      · exact Or.inr ⟨k + 1, by omega, by rw [q, show i + 1 + k = i + (k + 1) by omega]⟩
theorem flt_no {f : Nat → Int32} : ∀ n i, (∀ k, k < n → ¬ f (i + k) = -1) → fltF f i n = -1 := by
  intro n
  induction n with
  | zero => intro i _; rfl
  | succ n ih =>
    intro i h
    have h0 : ¬ f i = -1 := h 0 (by omega)
    rw [fltF, if_neg h0]
    refine ih (i + 1) (fun k hk => ?_)
    have := h (k + 1) (by omega)
    rwa [show i + (k + 1) = i + 1 + k by omega] at this
theorem rd_congr {f f2 : Nat → Int32} : ∀ n i, (∀ k, k < n → f (i + k) = f2 (i + k)) → rdF f i n = rdF f2 i n := by
  intro n
  induction n with
  | zero => intro i _; rfl
  | succ n ih =>
    intro i h
    have h0 : f i = f2 i := h 0 (by omega)
    rw [rdF, rdF, h0, ih (i + 1) (fun k hk => by have := h (k + 1) (by omega); rwa [show i + (k + 1) = i + 1 + k by omega] at this)]
theorem rd_in {f : Nat → Int32} : ∀ n i k, k < rdF f i n → inB (f (i + k)) 0 6 = true := by
  intro n
  induction n with
  | zero => intro i k hk; simp [rdF] at hk
  | succ n ih =>
    intro i k hk
    rw [rdF] at hk
    by_cases h : inB (f i) 0 6 = true
    · rw [if_pos h] at hk
      cases k with
      | zero => exact h
      | succ k => have := ih (i + 1) k (by omega); rwa [show i + 1 + k = i + (k + 1) by omega] at this
    · rw [if_neg h] at hk; omega
theorem dish_byte {d : Int32} (h : inB d 0 6 = true) : dishBy (byteOf d) = d ∧ ¬ d = -1 := by
  obtain ⟨g, hg, rfl⟩ := inB_of 6 (by decide) h
  rcases (show g = 0 ∨ g = 1 ∨ g = 2 ∨ g = 3 ∨ g = 4 ∨ g = 5 ∨ g = 6 by omega) with rfl | rfl | rfl | rfl | rfl | rfl | rfl <;> decide
section WR
variable {x m : ab_mem}
theorem RR_calm0 (h : RR x m) {g : Nat} (hg : g < 3) : ∃ c, c ≤ 9 ∧ x (19 + 2 * g) 3 = nI c ∧ m 3 g = nI c := by
  obtain ⟨c, hc, e⟩ := (R_ix h).2.1 g hg
  exact ⟨c, hc, e, by rw [← (R_g h hg).1, e]⟩
theorem RR_n0 (h : RR x m) {g : Nat} (hg : g < 3) : x (19 + 2 * g) 1 = nI (nM m g) ∧ m 1 g = nI (nM m g) ∧ nM m g ≤ 24 := by
  obtain ⟨a, b⟩ := (R_im h).1 g hg
  exact ⟨by rw [(R_g h hg).2.1]; exact a, a, b⟩
theorem RR_f0 (h : RR x m) {g : Nat} (hg : g < 3) : x (19 + 2 * g) 2 = fltF (x (20 + 2 * g)) 0 (nM m g) := by
  have := ((R_ix h).1 g hg).2.2.1
  rwa [n_eq h hg] at this
theorem RR_type (h : RR x m) {g n : Nat} {b : Int32} (hg : g < 3) (en : n = nM m g) (hn : n < 24) : RR (ab_up (ab_up (if dishBy b = -1 ∧ x (19 + 2 * g) 2 = -1 then ab_up x (19 + 2 * g) 2 (nI n) else x) (20 + 2 * g) n (dishBy b)) (19 + 2 * g) 1 (nI (n + 1))) (ab_up (ab_up m 2 (24 * g + n) b) 1 g (nI (n + 1))) := by
  obtain ⟨c, hc, c1, c2⟩ := RR_calm0 h hg
  have hf := RR_f0 h hg
  rw [← en] at hf
  obtain ⟨x1, ex1⟩ : ∃ x1, x1 = (if dishBy b = -1 ∧ x (19 + 2 * g) 2 = -1 then ab_up x (19 + 2 * g) 2 (nI n) else x) := ⟨_, rfl⟩
  rw [← ex1]
  have o1 : ∀ q, q ≠ 19 + 2 * g → x1 q = x q := fun q hq => by
    rw [ex1]; split
    · exact ab_up_o hq
    · rfl
  have o2 : ∀ j, j ≠ 2 → x1 (19 + 2 * g) j = x (19 + 2 * g) j := fun j hj => by
    rw [ex1]; split
    · exact up_n hj
    · rfl
  have o3 : x1 (19 + 2 * g) 2 = if dishBy b = -1 ∧ x (19 + 2 * g) 2 = -1 then nI n else x (19 + 2 * g) 2 := by
    rw [ex1]; split
    · exact ab_up_k
    · rfl
  refine RR_gen h (g := g) (n := n + 1) (c := c) hg (fun q q1 q2 => by rw [ab_up_o q1, ab_up_o q2, o1 q q1]) (fun q q1 q2 q3 => by rw [ab_up_o q1, ab_up_o q2]) (fun a ha hne => ⟨by rw [up_n hne, ab_up_o (by decide)], by rw [ab_up_o (by decide), ab_up_o (by decide)], fun k hk => by rw [ab_up_o (by decide), up_n (by omega)]⟩) (by omega) hc ab_up_k ab_up_k ?_ ?_ (fun k hk => ?_) ?_
  · rw [up_n (by decide), ab_up_o (by omega), o2 3 (by decide), c1]
  · rw [ab_up_o (by decide), ab_up_o (by decide), c2]
  · rw [ab_up_o (a := 20 + 2 * g) (q := 19 + 2 * g) (by omega), ab_up_o (a := 2) (q := 1) (by decide)]
    by_cases e : k = n
    · subst e; rw [ab_up_k, ab_up_k]
    · rw [up_n e, up_n (by omega), o1 _ (by omega)]
      exact (R_g h hg).2.2 k (by omega)
  · rw [up_n (by decide), ab_up_o (by omega), o3, ab_up_o (by omega), flt_snoc n 0 (by omega)]
    have e2 : fltF (ab_up x1 (20 + 2 * g) n (dishBy b) (20 + 2 * g)) 0 n = fltF (x (20 + 2 * g)) 0 n := by
      refine fltF_congr _ _ (fun k hk => ?_)
      rw [up_n (by omega), o1 _ (by omega)]
    rw [e2, hf, Nat.zero_add, ab_up_k]
    by_cases p : fltF (x (20 + 2 * g)) 0 n = -1
    · rw [if_pos p]
      by_cases q : dishBy b = -1
      · rw [if_pos ⟨q, p⟩, if_pos q]
      · rw [if_neg (fun z => q z.1), if_neg q, p]
    · rw [if_neg p, if_neg (fun z => p z.2)]
theorem RR_wipe (h : RR x m) {g : Nat} (hg : g < 3) : RR (ab_up (ab_up x (19 + 2 * g) 1 0) (19 + 2 * g) 2 (-1)) (ab_up m 1 g 0) := by
  obtain ⟨c, hc, c1, c2⟩ := RR_calm0 h hg
  refine RR_gen h (g := g) (n := 0) (c := c) hg (fun q q1 q2 => by rw [ab_up_o q1, ab_up_o q1]) (fun q q1 q2 q3 => by rw [ab_up_o q1]) (fun a ha hne => ⟨by rw [up_n hne], by rw [ab_up_o (by decide)], fun k hk => by rw [ab_up_o (by decide)]⟩) (by omega) hc ?_ ab_up_k ?_ ?_ (fun k hk => by omega) ab_up_k
  · rw [up_n (by decide), ab_up_k]; rfl
  · rw [up_n (by decide), up_n (by decide), c1]
  · rw [ab_up_o (by decide), c2]
theorem RR_undo (h : RR x m) {g n : Nat} (hg : g < 3) (en : n = nM m g) (hn : n ≠ 0) : RR (if x (19 + 2 * g) 2 = nI (n - 1) then ab_up (ab_up x (19 + 2 * g) 1 (nI (n - 1))) (19 + 2 * g) 2 (-1) else ab_up x (19 + 2 * g) 1 (nI (n - 1))) (ab_up m 1 g (nI (n - 1))) := by
  obtain ⟨c, hc, c1, c2⟩ := RR_calm0 h hg
  have hf := RR_f0 h hg
  rw [← en] at hf
  have h24 := (RR_n0 h hg).2.2
  obtain ⟨x1, ex1⟩ : ∃ x1, x1 = (if x (19 + 2 * g) 2 = nI (n - 1) then ab_up (ab_up x (19 + 2 * g) 1 (nI (n - 1))) (19 + 2 * g) 2 (-1) else ab_up x (19 + 2 * g) 1 (nI (n - 1))) := ⟨_, rfl⟩
  rw [← ex1]
  have o1 : ∀ q, q ≠ 19 + 2 * g → x1 q = x q := fun q hq => by
    rw [ex1]; split
    · rw [ab_up_o hq, ab_up_o hq]
    · exact ab_up_o hq
  have s2 := flt_snoc (f := x (20 + 2 * g)) (n - 1) 0 (by omega)
  rw [show n - 1 + 1 = n by omega, Nat.zero_add] at s2
  refine RR_gen h (g := g) (n := n - 1) (c := c) hg (fun q q1 q2 => o1 q q1) (fun q q1 q2 q3 => by rw [ab_up_o q1]) (fun a ha hne => ⟨by rw [up_n hne], by rw [ab_up_o (by decide)], fun k hk => by rw [ab_up_o (by decide)]⟩) (by omega) hc ?_ ab_up_k ?_ ?_ (fun k hk => ?_) ?_
  · rw [ex1]; split
    · rw [up_n (by decide), ab_up_k]
    · rw [ab_up_k]
  · rw [ex1]; split
    · rw [up_n (by decide), up_n (by decide), c1]
    · rw [up_n (by decide), c1]
  · rw [ab_up_o (by decide), c2]
  · rw [o1 _ (by omega), ab_up_o (by decide)]
    exact (R_g h hg).2.2 k (by omega)
  · rw [o1 (20 + 2 * g) (by omega), ex1, hf, s2]
    rcases flt_lt (f := x (20 + 2 * g)) (n - 1) 0 with p | ⟨k, hk, p⟩
    · rw [p, if_pos rfl]
      by_cases q : x (20 + 2 * g) (n - 1) = -1
      · rw [if_pos q, if_pos rfl, ab_up_k]
      · rw [if_neg q, if_neg (fun z => nI_neg1 (n := n - 1) (by omega) z.symm), up_n (by decide), hf, s2, p, if_pos rfl, if_neg q]
    · have k1 : ¬ fltF (x (20 + 2 * g)) 0 (n - 1) = -1 := by rw [p]; exact nI_neg1 (by omega)
      have k2 : ¬ fltF (x (20 + 2 * g)) 0 (n - 1) = nI (n - 1) := by rw [p, nI_eq (by omega) (by omega)]; omega
      rw [if_neg k1, if_neg k2, up_n (by decide), hf, s2, if_neg k1]
theorem RR_calm (h : RR x m) {g c : Nat} (hg : g < 3) (hc : c ≤ 9) : RR (ab_up x (19 + 2 * g) 3 (nI c)) (ab_up m 3 g (nI c)) := by
  obtain ⟨n1, n2, n3⟩ := RR_n0 h hg
  refine RR_gen h (g := g) (n := nM m g) (c := c) hg (fun q q1 q2 => by rw [ab_up_o q1]) (fun q q1 q2 q3 => by rw [ab_up_o q3]) (fun a ha hne => ⟨by rw [ab_up_o (by decide)], by rw [up_n hne], fun k hk => by rw [ab_up_o (by decide)]⟩) n3 hc ?_ ?_ ab_up_k ab_up_k (fun k hk => ?_) ?_
  · rw [up_n (by decide), n1]
  · rw [ab_up_o (by decide), n2]
  · rw [ab_up_o (by omega), ab_up_o (by decide)]; exact (R_g h hg).2.2 k hk
  · rw [up_n (by decide), ab_up_o (by omega)]; exact RR_f0 h hg
theorem RR_read (h : RR x m) {g s n N : Nat} (hg : g < 3) (hs : s < 4) (hN : N ≤ 24) (en : n = rdF (x (35 + 2 * s)) 0 N) : RR (tkX x g s n) (ab_up (rdM m s g n) 1 g (nI n)) := by
  obtain ⟨c, hc, c1, c2⟩ := RR_calm0 h hg
  have hn : n ≤ 24 := by have := rdF_le (x (35 + 2 * s)) N 0; omega
  have hin : ∀ k, k < n → inB (x (35 + 2 * s) k) 0 6 = true := fun k hk => by have := rd_in N 0 k (by rw [← en]; exact hk); rwa [Nat.zero_add] at this
  unfold tkX rdM
  refine RR_gen h (g := g) (n := n) (c := c) hg (fun q q1 q2 => by rw [row_o q2, ab_up_o q1, ab_up_o q1]) (fun q q1 q2 q3 => by rw [ab_up_o q1, row_o q2]) (fun a ha hne => ⟨by rw [up_n hne, row_o (by decide)], by rw [ab_up_o (by decide), row_o (by decide)], fun k hk => by rw [ab_up_o (by decide), row_s, fb_put_out (by omega)]⟩) hn hc ?_ ab_up_k ?_ ?_ (fun k hk => ?_) ?_
  · rw [row_o (by omega), up_n (by decide), ab_up_k]
  · rw [row_o (by omega), up_n (by decide), up_n (by decide), c1]
  · rw [ab_up_o (by decide), row_o (by decide), c2]
  · rw [row_s, ab_up_o (by decide), row_s, fb_put_in (by omega) (by omega), fb_put_in (by omega) (by omega), Nat.sub_zero, show 24 * g + k - 24 * g = k by omega]
    have h6 := hin k hk
    rw [(R_sh h hs).2.2.2 k (by omega)] at h6 ⊢
    exact (dish_byte h6).1.symm
  · rw [row_o (by omega), ab_up_k, row_s]
    refine (flt_no _ _ (fun k hk => ?_)).symm
    rw [Nat.zero_add, fb_put_in (by omega) (by omega), Nat.sub_zero]
    exact (dish_byte (hin k hk)).2
end WR
