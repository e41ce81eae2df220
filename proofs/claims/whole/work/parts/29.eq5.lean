section WS
variable {x m : ab_mem}
theorem RR_s0 (h : RR x m) {s : Nat} (hs : s < 4) : ∃ z, z ≤ 48 ∧ x (34 + 2 * s) 2 = nI z ∧ m 16 s = nI z := by
  obtain ⟨z, hz, e⟩ := (R_ix h).2.2.2.2.2.2.1 s hs
  exact ⟨z, hz, e, by rw [← (R_sh h hs).2.2.1, e]⟩
theorem RR_renew (h : RR x m) {s z : Nat} {fo : Int32} (hs : s < 4) (hz : z ≤ 48) : RR (rnX x s fo (nI z)) (shM m s fo (nI z) 48) := by
  unfold rnX shM
  refine RR_sheet h (s := s) (z := z) (b := false) hs (fun q q1 q2 => by rw [ab_up_o q1, ab_up_o q1, ab_up_o q1, row_o q2]) (fun q q1 q2 q3 q4 => by rw [row_o q4, ab_up_o q3, ab_up_o q2, ab_up_o q1]) (fun a ha hne => ⟨?_, ?_, ?_, fun k hk => ?_⟩) hz ab_up_k ?_ ?_ ?_ ?_ (fun k hk => ?_)
  · rw [row_o (by decide), ab_up_o (by decide), ab_up_o (by decide), up_n hne]
  · rw [row_o (by decide), ab_up_o (by decide), up_n hne, ab_up_o (by decide)]
  · rw [row_o (by decide), up_n hne, ab_up_o (by decide), ab_up_o (by decide)]
  · rw [row_s, fb_put_out (by omega)]
  · rw [row_o (by decide), ab_up_o (by decide), ab_up_o (by decide), ab_up_k]; rfl
  · rw [up_n (by decide), up_n (by decide), ab_up_k, row_o (by decide), ab_up_o (by decide), ab_up_k]
  · rw [up_n (by decide), ab_up_k]
  · rw [row_o (by decide), ab_up_k]
  · rw [ab_up_o (by omega), ab_up_o (by omega), ab_up_o (by omega), row_s, row_s, fb_put_in (by omega) (by omega), fb_put_in (by omega) (by omega)]
theorem RR_lose (h : RR x m) {s : Nat} (hs : s < 4) : RR (ab_up x (34 + 2 * s) 3 1) (ab_up m 14 s 0) := by
  obtain ⟨z, hz, z1, z2⟩ := RR_s0 h hs
  refine RR_sheet h (s := s) (z := z) (b := true) hs (fun q q1 q2 => by rw [ab_up_o q1]) (fun q q1 q2 q3 q4 => by rw [ab_up_o q1]) (fun a ha hne => ⟨by rw [up_n hne], by rw [ab_up_o (by decide)], by rw [ab_up_o (by decide)], fun k hk => by rw [ab_up_o (by decide)]⟩) hz ab_up_k ab_up_k ?_ ?_ ?_ (fun k hk => ?_)
  · rw [up_n (by decide), ab_up_o (by decide)]; exact (R_sh h hs).2.1
  · rw [up_n (by decide), z1]
  · rw [ab_up_o (by decide), z2]
  · rw [ab_up_o (by omega), ab_up_o (by decide)]; exact (R_sh h hs).2.2.2 k hk
theorem RR_items (h : RR x m) {s : Nat} {f F : Nat → Int32} (hs : s < 4) (he : ∀ k, k < 48 → f k = F (48 * s + k)) (ho : ∀ k, (k < 48 * s ∨ 48 * s + 48 ≤ k) → F k = m 17 k) : RR (ab_row x (35 + 2 * s) f) (ab_row m 17 F) := by
  obtain ⟨z, hz, z1, z2⟩ := RR_s0 h hs
  obtain ⟨⟨b, b1, b2⟩, b3, -⟩ := R_sh h hs
  refine RR_sheet h (s := s) (z := z) (b := b) hs (fun q q1 q2 => by rw [row_o q2]) (fun q q1 q2 q3 q4 => by rw [row_o q4]) (fun a ha hne => ⟨by rw [row_o (by decide)], by rw [row_o (by decide)], by rw [row_o (by decide)], fun k hk => by rw [row_s, ho _ (by omega)]⟩) hz ?_ ?_ ?_ ?_ ?_ (fun k hk => ?_)
  · rw [row_o (by omega), b1]
  · rw [row_o (by decide), b2]
  · rw [row_o (by omega), row_o (by decide), b3]
  · rw [row_o (by omega), z1]
  · rw [row_o (by decide), z2]
  · rw [row_s, row_s, he k hk]
theorem up_row {mu : ab_mem} {q k : Nat} {v : Int32} : ab_up mu q k v = ab_row mu q (upd (mu q) k v) := by
  funext a
  simp only [ab_up, ab_row]
theorem RR_put (h : RR x m) {s k : Nat} {v : Int32} (hs : s < 4) (hk : k < 48) : RR (ab_up x (35 + 2 * s) k v) (ab_up m 17 (48 * s + k) v) := by
  rw [up_row, up_row]
  refine RR_items h hs (fun j hj => ?_) (fun j hj => upd_n (by omega))
  by_cases e : j = k
  · subst e; rw [upd_k, upd_k]
  · rw [upd_n e, upd_n (by omega)]; exact (R_sh h hs).2.2.2 j hj
theorem RR_copy (h : RR x m) {s t i j n : Nat} (hs : s < 4) (ht : t < 4) (hi : i + n ≤ 48) (hj : j + n ≤ 48) : RR (ab_row x (35 + 2 * t) (va_cpy (x (35 + 2 * s)) (x (35 + 2 * t)) i j n)) (ab_row m 17 (fb_put (m 17) (fun k => m 17 (48 * s + i + k)) (48 * t + j) n)) := by
  refine RR_items h ht (fun k hk => ?_) (fun k hk => fb_put_out (by omega))
  unfold va_cpy
  by_cases c : j ≤ k ∧ k < j + n
  · rw [if_pos c, fb_put_in (by omega) (by omega), (R_sh h hs).2.2.2 _ (by omega)]
    congr 1
    omega
  · rw [if_neg c, fb_put_out (by omega)]; exact (R_sh h ht).2.2.2 k hk
theorem RR_write (h : RR x m) {g s n : Nat} (hg : g < 3) (hs : s < 4) (hn : n ≤ 24) : RR (ab_row x (35 + 2 * s) (fb_put (x (35 + 2 * s)) (fun k => cvF (x (34 + 2 * s) 1) (lX x g 0 99 (k + 1))) 0 n)) (ab_row m 17 (fb_put (m 17) (fun k => cvF (m 15 s) (lM m g 0 99 (k + 1))) (48 * s) n)) := by
  refine RR_items h hs (fun k hk => ?_) (fun k hk => fb_put_out (by omega))
  by_cases c : k < n
  · rw [fb_put_in (by omega) (by omega), fb_put_in (by omega) (by omega), l_eq h hg, (R_sh h hs).2.1]
    congr 2
    omega
  · rw [fb_put_out (by omega), fb_put_out (by omega)]; exact (R_sh h hs).2.2.2 k hk
theorem RR_k0 (h : RR x m) : ∃ k, k ≤ 8 ∧ x 7 3 = nI k ∧ m 0 13 = nI k := ⟨kX x, (R_ix h).2.2.1.1, (R_ix h).2.2.1.2, by rw [← (R_si h).2.2.2]; exact (R_ix h).2.2.1.2⟩
/-- the rest, where only some of the labels below 19 change -/
theorem RR_rest2 (h : RR x m) {x2 m2 : ab_mem} (hx : ∀ q, 19 ≤ q → x2 q = x q) (hm : ∀ q, q = 1 ∨ q = 2 ∨ q = 3 ∨ q = 14 ∨ q = 15 ∨ q = 16 ∨ q = 17 → m2 q = m q) (e1 : PO (m2 5)) (e2 : x2 5 = m2 4) (e3 : x2 6 = m2 5) (e4 : x2 4 2 = m2 0 5) (e5 : x2 4 3 = m2 0 6) (e6 : x2 4 4 = m2 0 7) (e7 : inB (x2 4 3) 0 2 = true) (e8 : inB (x2 4 4) 0 126 = true) (s1 : x2 7 = x 7 ∧ m2 0 13 = m 0 13) (s2 : x2 8 = x 8 ∧ x2 9 = x 9 ∧ x2 10 = x 10) (s3 : m2 11 = m 11 ∧ m2 12 = m 12 ∧ m2 13 = m 13) (e11 : x2 0 8 = m2 0 22) : RR x2 m2 := by
  obtain ⟨k, hk, k1, k2⟩ := RR_k0 h
  obtain ⟨-, -, -, i4, i5, i6, -, -⟩ := R_ix h
  refine RR_rest h hx hm e1 e2 e3 e4 e5 e6 e7 e8 hk (by rw [s1.1, k1]) (by rw [s1.2, k2]) ?_ ?_ ?_ ?_ ?_ ?_ e11
  · rw [s2.1, s3.1]; exact (R_si h).1
  · rw [s2.2.1, s3.2.1]; exact (R_si h).2.1
  · rw [s2.2.2, s3.2.2]; exact (R_si h).2.2.1
  · rw [s2.1]; exact i4
  · rw [s2.2.1]; exact i5
  · rw [s2.2.2]; exact i6
theorem hx_up {q0 k : Nat} {v : Int32} (hq : q0 < 19) : ∀ q, 19 ≤ q → ab_up x q0 k v q = x q := fun q h => ab_up_o (by omega)
theorem hm_up {q0 k : Nat} {v : Int32} (hq : q0 = 0 ∨ q0 = 4 ∨ q0 = 5) : ∀ q, q = 1 ∨ q = 2 ∨ q = 3 ∨ q = 14 ∨ q = 15 ∨ q = 16 ∨ q = 17 → ab_up m q0 k v q = m q := fun q h => ab_up_o (by omega)
theorem RR_does (h : RR x m) {g : Nat} {v : Int32} : RR (ab_up x 5 g v) (ab_up m 4 g v) := by
  refine RR_rest2 h (hx_up (by decide)) (hm_up (by decide)) ?_ ?_ ?_ ?_ ?_ ?_ ?_ ?_ ⟨ab_up_o (by decide), by rw [ab_up_o (by decide)]⟩ ⟨ab_up_o (by decide), ab_up_o (by decide), ab_up_o (by decide)⟩ ⟨ab_up_o (by decide), ab_up_o (by decide), ab_up_o (by decide)⟩ ?_
  · rw [ab_up_o (by decide)]; exact R_po h
  · rw [ab_up_s, ab_up_s, R_e h]
  · rw [ab_up_o (by decide), ab_up_o (by decide)]; exact R_pr h
  · rw [ab_up_o (by decide), ab_up_o (by decide)]; exact R_mk h
  · rw [ab_up_o (by decide), ab_up_o (by decide)]; exact R_lw h
  · rw [ab_up_o (by decide), ab_up_o (by decide)]; exact R_fb h
  · rw [ab_up_o (by decide)]; exact R_lwb h
  · rw [ab_up_o (by decide)]; exact R_fbb h
  · rw [ab_up_o (by decide), ab_up_o (by decide)]; exact R_fi h
theorem RR_price (h : RR x m) {g : Nat} {v : Int32} (hv : inB v 0 99 = true) : RR (ab_up x 6 g v) (ab_up m 5 g v) := by
  refine RR_rest2 h (hx_up (by decide)) (hm_up (by decide)) ?_ ?_ ?_ ?_ ?_ ?_ ?_ ?_ ⟨ab_up_o (by decide), by rw [ab_up_o (by decide)]⟩ ⟨ab_up_o (by decide), ab_up_o (by decide), ab_up_o (by decide)⟩ ⟨ab_up_o (by decide), ab_up_o (by decide), ab_up_o (by decide)⟩ ?_
  · intro d hd
    rw [ab_up_s]
    by_cases e : d = g
    · subst e
      rw [upd_k]
      rw [inB_t, fa_le, fa_le] at hv
      exact hv
    · rw [upd_n e]; exact R_po h d hd
  · rw [ab_up_o (by decide), ab_up_o (by decide)]; exact R_e h
  · rw [ab_up_s, ab_up_s, R_pr h]
  · rw [ab_up_o (by decide), ab_up_o (by decide)]; exact R_mk h
  · rw [ab_up_o (by decide), ab_up_o (by decide)]; exact R_lw h
  · rw [ab_up_o (by decide), ab_up_o (by decide)]; exact R_fb h
  · rw [ab_up_o (by decide)]; exact R_lwb h
  · rw [ab_up_o (by decide)]; exact R_fbb h
  · rw [ab_up_o (by decide), ab_up_o (by decide)]; exact R_fi h
theorem RR_finding (h : RR x m) {v : Int32} : RR (ab_up x 0 8 v) (ab_up m 0 22 v) := by
  refine RR_rest2 h (hx_up (by decide)) (hm_up (by decide)) ?_ ?_ ?_ ?_ ?_ ?_ ?_ ?_ ⟨ab_up_o (by decide), by rw [up_n (by decide)]⟩ ⟨ab_up_o (by decide), ab_up_o (by decide), ab_up_o (by decide)⟩ ⟨ab_up_o (by decide), ab_up_o (by decide), ab_up_o (by decide)⟩ ?_
  · rw [ab_up_o (by decide)]; exact R_po h
  · rw [ab_up_o (by decide), ab_up_o (by decide)]; exact R_e h
  · rw [ab_up_o (by decide), ab_up_o (by decide)]; exact R_pr h
  · rw [ab_up_o (by decide), up_n (by decide)]; exact R_mk h
  · rw [ab_up_o (by decide), up_n (by decide)]; exact R_lw h
  · rw [ab_up_o (by decide), up_n (by decide)]; exact R_fb h
  · rw [ab_up_o (by decide)]; exact R_lwb h
  · rw [ab_up_o (by decide)]; exact R_fbb h
  · rw [ab_up_k, ab_up_k]
theorem RR_set0 (h : RR x m) {v : Int32} : RR (ab_up x 4 2 v) (ab_up m 0 5 v) := by
  refine RR_rest2 h (hx_up (by decide)) (hm_up (by decide)) ?_ ?_ ?_ ?_ ?_ ?_ ?_ ?_ ⟨ab_up_o (by decide), by rw [up_n (by decide)]⟩ ⟨ab_up_o (by decide), ab_up_o (by decide), ab_up_o (by decide)⟩ ⟨ab_up_o (by decide), ab_up_o (by decide), ab_up_o (by decide)⟩ ?_
  · rw [ab_up_o (by decide)]; exact R_po h
  · rw [ab_up_o (by decide), ab_up_o (by decide)]; exact R_e h
  · rw [ab_up_o (by decide), ab_up_o (by decide)]; exact R_pr h
  · rw [ab_up_k, ab_up_k]
  · rw [up_n (by decide), up_n (by decide)]; exact R_lw h
  · rw [up_n (by decide), up_n (by decide)]; exact R_fb h
  · rw [up_n (by decide)]; exact R_lwb h
  · rw [up_n (by decide)]; exact R_fbb h
  · rw [ab_up_o (by decide), up_n (by decide)]; exact R_fi h
theorem RR_set1 (h : RR x m) {v : Int32} (hv : inB v 0 2 = true) : RR (ab_up x 4 3 v) (ab_up m 0 6 v) := by
  refine RR_rest2 h (hx_up (by decide)) (hm_up (by decide)) ?_ ?_ ?_ ?_ ?_ ?_ ?_ ?_ ⟨ab_up_o (by decide), by rw [up_n (by decide)]⟩ ⟨ab_up_o (by decide), ab_up_o (by decide), ab_up_o (by decide)⟩ ⟨ab_up_o (by decide), ab_up_o (by decide), ab_up_o (by decide)⟩ ?_
  · rw [ab_up_o (by decide)]; exact R_po h
  · rw [ab_up_o (by decide), ab_up_o (by decide)]; exact R_e h
  · rw [ab_up_o (by decide), ab_up_o (by decide)]; exact R_pr h
  · rw [up_n (by decide), up_n (by decide)]; exact R_mk h
  · rw [ab_up_k, ab_up_k]
  · rw [up_n (by decide), up_n (by decide)]; exact R_fb h
  · rw [ab_up_k]; exact hv
  · rw [up_n (by decide)]; exact R_fbb h
  · rw [ab_up_o (by decide), up_n (by decide)]; exact R_fi h
theorem RR_set2 (h : RR x m) {v : Int32} (hv : inB v 0 126 = true) : RR (ab_up x 4 4 v) (ab_up m 0 7 v) := by
  refine RR_rest2 h (hx_up (by decide)) (hm_up (by decide)) ?_ ?_ ?_ ?_ ?_ ?_ ?_ ?_ ⟨ab_up_o (by decide), by rw [up_n (by decide)]⟩ ⟨ab_up_o (by decide), ab_up_o (by decide), ab_up_o (by decide)⟩ ⟨ab_up_o (by decide), ab_up_o (by decide), ab_up_o (by decide)⟩ ?_
  · rw [ab_up_o (by decide)]; exact R_po h
  · rw [ab_up_o (by decide), ab_up_o (by decide)]; exact R_e h
  · rw [ab_up_o (by decide), ab_up_o (by decide)]; exact R_pr h
  · rw [up_n (by decide), up_n (by decide)]; exact R_mk h
  · rw [up_n (by decide), up_n (by decide)]; exact R_lw h
  · rw [ab_up_k, ab_up_k]
  · rw [up_n (by decide)]; exact R_lwb h
  · rw [ab_up_k]; exact hv
  · rw [ab_up_o (by decide), up_n (by decide)]; exact R_fi h
theorem RR_forget (h : RR x m) : RR (ab_up x 7 3 0) (ab_up m 0 13 0) := by
  obtain ⟨-, -, -, i4, i5, i6, -, -⟩ := R_ix h
  refine RR_rest h (k := 0) (hx_up (by decide)) (hm_up (by decide)) ?_ ?_ ?_ ?_ ?_ ?_ ?_ ?_ (by decide) ab_up_k ab_up_k ?_ ?_ ?_ ?_ ?_ ?_ ?_
  · rw [ab_up_o (by decide)]; exact R_po h
  · rw [ab_up_o (by decide), ab_up_o (by decide)]; exact R_e h
  · rw [ab_up_o (by decide), ab_up_o (by decide)]; exact R_pr h
  · rw [ab_up_o (by decide), up_n (by decide)]; exact R_mk h
  · rw [ab_up_o (by decide), up_n (by decide)]; exact R_lw h
  · rw [ab_up_o (by decide), up_n (by decide)]; exact R_fb h
  · rw [ab_up_o (by decide)]; exact R_lwb h
  · rw [ab_up_o (by decide)]; exact R_fbb h
  · rw [ab_up_o (by decide), ab_up_o (by decide)]; exact (R_si h).1
  · rw [ab_up_o (by decide), ab_up_o (by decide)]; exact (R_si h).2.1
  · rw [ab_up_o (by decide), ab_up_o (by decide)]; exact (R_si h).2.2.1
  · rw [ab_up_o (by decide)]; exact i4
  · rw [ab_up_o (by decide)]; exact i5
  · rw [ab_up_o (by decide)]; exact i6
  · rw [ab_up_o (by decide), up_n (by decide)]; exact R_fi h
theorem RR_seen (h : RR x m) {g hr k : Nat} {w : Bool} (hg : g < 3) (hh : hr < 24) (hk : k < 8) : RR (snX x g hr k (bI w)) (ab_up (ab_up (ab_up (ab_up m 11 k (nI g)) 12 k (nI hr)) 13 k (bI w)) 0 13 (nI (k + 1))) := by
  obtain ⟨-, -, -, i4, i5, i6, -, -⟩ := R_ix h
  unfold snX
  have X : ∀ q, q ≠ 7 → q ≠ 8 → q ≠ 9 → q ≠ 10 → ab_up (ab_up (ab_up (ab_up x 8 k (nI g)) 9 k (nI hr)) 10 k (bI w)) 7 3 (nI (k + 1)) q = x q := fun q a b c d => by rw [ab_up_o a, ab_up_o d, ab_up_o c, ab_up_o b]
  have M : ∀ q, q ≠ 0 → q ≠ 11 → q ≠ 12 → q ≠ 13 → ab_up (ab_up (ab_up (ab_up m 11 k (nI g)) 12 k (nI hr)) 13 k (bI w)) 0 13 (nI (k + 1)) q = m q := fun q a b c d => by rw [ab_up_o a, ab_up_o d, ab_up_o c, ab_up_o b]
  have M0 : ∀ j, j ≠ 13 → ab_up (ab_up (ab_up (ab_up m 11 k (nI g)) 12 k (nI hr)) 13 k (bI w)) 0 13 (nI (k + 1)) 0 j = m 0 j := fun j a => by rw [up_n a, ab_up_o (by decide), ab_up_o (by decide), ab_up_o (by decide)]
  have X8 : ab_up (ab_up (ab_up (ab_up x 8 k (nI g)) 9 k (nI hr)) 10 k (bI w)) 7 3 (nI (k + 1)) 8 = upd (x 8) k (nI g) := by rw [ab_up_o (by decide), ab_up_o (by decide), ab_up_o (by decide), ab_up_s]
  have X9 : ab_up (ab_up (ab_up (ab_up x 8 k (nI g)) 9 k (nI hr)) 10 k (bI w)) 7 3 (nI (k + 1)) 9 = upd (x 9) k (nI hr) := by rw [ab_up_o (by decide), ab_up_o (by decide), ab_up_s, ab_up_o (by decide)]
  have X10 : ab_up (ab_up (ab_up (ab_up x 8 k (nI g)) 9 k (nI hr)) 10 k (bI w)) 7 3 (nI (k + 1)) 10 = upd (x 10) k (bI w) := by rw [ab_up_o (by decide), ab_up_s, ab_up_o (by decide), ab_up_o (by decide)]
  refine RR_rest h (k := k + 1) (fun q hq => X q (by omega) (by omega) (by omega) (by omega)) (fun q hq => M q (by omega) (by omega) (by omega) (by omega)) ?_ ?_ ?_ ?_ ?_ ?_ ?_ ?_ (by omega) ab_up_k ab_up_k ?_ ?_ ?_ ?_ ?_ ?_ ?_
  · rw [M 5 (by decide) (by decide) (by decide) (by decide)]; exact R_po h
  · rw [X 5 (by decide) (by decide) (by decide) (by decide), M 4 (by decide) (by decide) (by decide) (by decide)]; exact R_e h
  · rw [X 6 (by decide) (by decide) (by decide) (by decide), M 5 (by decide) (by decide) (by decide) (by decide)]; exact R_pr h
  · rw [X 4 (by decide) (by decide) (by decide) (by decide), M0 5 (by decide)]; exact R_mk h
  · rw [X 4 (by decide) (by decide) (by decide) (by decide), M0 6 (by decide)]; exact R_lw h
  · rw [X 4 (by decide) (by decide) (by decide) (by decide), M0 7 (by decide)]; exact R_fb h
  · rw [X 4 (by decide) (by decide) (by decide) (by decide)]; exact R_lwb h
  · rw [X 4 (by decide) (by decide) (by decide) (by decide)]; exact R_fbb h
  · rw [X8, ab_up_o (by decide), ab_up_o (by decide), ab_up_o (by decide), ab_up_s, (R_si h).1]
  · rw [X9, ab_up_o (by decide), ab_up_o (by decide), ab_up_s, ab_up_o (by decide), (R_si h).2.1]
  · rw [X10, ab_up_o (by decide), ab_up_s, ab_up_o (by decide), ab_up_o (by decide), (R_si h).2.2.1]
  · intro j hj
    rw [X8]
    by_cases e : j = k
    · subst e; rw [upd_k]; exact ⟨g, hg, rfl⟩
    · rw [upd_n e]; exact i4 j hj
  · intro j hj
    rw [X9]
    by_cases e : j = k
    · subst e; rw [upd_k]; exact ⟨hr, hh, rfl⟩
    · rw [upd_n e]; exact i5 j hj
  · intro j hj
    rw [X10]
    by_cases e : j = k
    · subst e; rw [upd_k]; exact ⟨w, rfl⟩
    · rw [upd_n e]; exact i6 j hj
  · rw [X 0 (by decide) (by decide) (by decide) (by decide), M0 22 (by decide)]; exact R_fi h
end WS
