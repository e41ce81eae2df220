/-! the class's world: what stays, what is read -/
section ABL
variable {X : ab_X} {l : Launch} {R : Room} {own : String} {cc : ByteArray} {Ts : List Cond} {nL : Nat} {V : ab_V} {Sh : List ab_kd} {pc : Nat} {lo : List (Option Value)} {st : List Value} {mu : ab_mem}
theorem a_gets (B : CX X l R own cc Ts nL V Sh) {index t : Nat} {C n d : String} (hZ : va_Z C n d (.ref t) (ab_A V Sh) (xs X) (xs X).heap) (hl : Cond.fieldLink own index C n d ∈ Ts) (hd : decode cc pc = .ok (.getstatic index, 3)) (k : AW X V Sh nL (pc + 3) lo (.ref t :: st) mu) : AW X V Sh nL pc lo st mu := fun H locs ls hP hS h => va_gets B.1.1 B.1.2.1 hZ hS B.1.2.2.2.1 (B.1.2.2.2.2 _ hl) (fun _ z => z) hd (k H locs ls hP hS h)
theorem a_tix (B : CX X l R own cc Ts nL V Sh) {t N : Nat} {f : Nat → Value} {i : Int32} {v : Value} (hT : va_T .int t N f (ab_A V Sh) (xs X) (xs X).heap) (hin : vp_in i N) (hv : f i.toNatClampNeg = v) (hd : decode cc pc = .ok (.iaload, 1)) (k : AW X V Sh nL (pc + 1) lo (v :: st) mu) : AW X V Sh nL pc lo (.int i :: .ref t :: st) mu := fun H locs ls hP hS h => va_ti B.1.1 B.1.2.1 hT hS hin hv hd (k H locs ls hP hS h)
end ABL
theorem elG {g : Nat} (h : g < 3) : ([19, 21, 23] : List Nat)[g]? = some (19 + 2 * g) := by
  rcases (show g = 0 ∨ g = 1 ∨ g = 2 by omega) with rfl | rfl | rfl <;> rfl
theorem elD {g : Nat} (h : g < 3) : ([25, 28, 31] : List Nat)[g]? = some (25 + 3 * g) := by
  rcases (show g = 0 ∨ g = 1 ∨ g = 2 by omega) with rfl | rfl | rfl <;> rfl
theorem elS {g : Nat} (h : g < 4) : ([34, 36, 38, 40] : List Nat)[g]? = some (34 + 2 * g) := by
  rcases (show g = 0 ∨ g = 1 ∨ g = 2 ∨ g = 3 by omega) with rfl | rfl | rfl | rfl <;> rfl
theorem shG {g : Nat} (h : g < 3) : ShX[19 + 2 * g]? = some (hp_ob 1 [some (20 + 2 * g), none, none, none]) := by
  rcases (show g = 0 ∨ g = 1 ∨ g = 2 by omega) with rfl | rfl | rfl <;> rfl
theorem shGm {g : Nat} (h : g < 3) : ShX[20 + 2 * g]? = some (hp_ar 24) := by
  rcases (show g = 0 ∨ g = 1 ∨ g = 2 by omega) with rfl | rfl | rfl <;> rfl
theorem shS {g : Nat} (h : g < 4) : ShX[34 + 2 * g]? = some (hp_ob 4 [some (35 + 2 * g), none, none, none]) := by
  rcases (show g = 0 ∨ g = 1 ∨ g = 2 ∨ g = 3 by omega) with rfl | rfl | rfl | rfl <;> rfl
theorem shSi {g : Nat} (h : g < 4) : ShX[35 + 2 * g]? = some (hp_ar 48) := by
  rcases (show g = 0 ∨ g = 1 ∨ g = 2 ∨ g = 3 by omega) with rfl | rfl | rfl | rfl <;> rfl
/-- the labels of days -/
def DL (d : Nat) : Prop := d = 11 ∨ d = 25 ∨ d = 28 ∨ d = 31
theorem DL_g {g : Nat} (h : g < 3) : DL (25 + 3 * g) := by unfold DL; omega
theorem shD {d : Nat} (h : DL d) : ShX[d]? = some (hp_ob 0 [some (d + 1), some (d + 2), none]) := by
  rcases h with rfl | rfl | rfl | rfl <;> rfl
theorem shD1 {d : Nat} (h : DL d) : ShX[d + 1]? = some (hp_ar 24) := by
  rcases h with rfl | rfl | rfl | rfl <;> rfl
theorem shD2 {d : Nat} (h : DL d) : ShX[d + 2]? = some (hp_ar 24) := by
  rcases h with rfl | rfl | rfl | rfl <;> rfl
def scX (q : Nat) : Bool := q == 11 || q == 12 || q == 13 || q == 15 || q == 16 || q == 18 || (decide (25 ≤ q) && decide (q ≤ 33))
def pX (mu : ab_mem) : ab_mem := fun q => if scX q then (fun _ => 0) else mu q
theorem DL_sc {d : Nat} (h : DL d) : scX d = true ∧ scX (d + 1) = true ∧ scX (d + 2) = true := by
  rcases h with rfl | rfl | rfl | rfl <;> decide
theorem pX_up {mu : ab_mem} {q k : Nat} {x : Int32} (h : scX q = true) : pX (ab_up mu q k x) = pX mu := by
  funext a
  simp only [pX]
  split
  · rfl
  · rename_i ha
    rw [ab_up_o]
    intro e
    rw [e] at ha
    exact ha h
theorem pX_at {mu mu2 : ab_mem} (h : pX mu2 = pX mu) (q : Nat) (hq : scX q = false) : mu2 q = mu q := by
  have := congrFun h q
  simpa [pX, hq] using this
theorem pX_of {mu mu2 : ab_mem} (h : ∀ q, scX q = false → mu2 q = mu q) : pX mu2 = pX mu := by
  funext a
  simp only [pX]
  split
  · rfl
  · rename_i ha
    exact h a (by simpa using ha)
theorem scG {g : Nat} (h : g < 3) : scX (19 + 2 * g) = false ∧ scX (20 + 2 * g) = false := by
  rcases (show g = 0 ∨ g = 1 ∨ g = 2 by omega) with rfl | rfl | rfl <;> decide
theorem scS {g : Nat} (h : g < 4) : scX (34 + 2 * g) = false ∧ scX (35 + 2 * g) = false := by
  rcases (show g = 0 ∨ g = 1 ∨ g = 2 ∨ g = 3 by omega) with rfl | rfl | rfl | rfl <;> decide
theorem sc_ne {a b : Nat} (ha : scX a = true) (hb : scX b = false) : b ≠ a := fun e => by rw [e, ha] at hb; cases hb
def nX (mu : ab_mem) (g : Nat) : Nat := (mu (19 + 2 * g) 1).toNatClampNeg
def fX (mu : ab_mem) (g : Nat) : Nat → Int32 := mu (20 + 2 * g)
def tX (mu : ab_mem) (g : Nat) : Nat := if mu (19 + 2 * g) 2 = -1 then nX mu g else 0
def dX (mu : ab_mem) (g o fr : Nat) : Nat → Int32 := dyD (fX mu g) (tX mu g) o fr
def lX (mu : ab_mem) (g o fr : Nat) : Nat → Int32 := lvB (mu 5) (mu (19 + 2 * g) 3) (dX mu g o fr)
def bX (mu : ab_mem) (g o fr : Nat) : Nat → Int32 := btB (mu 4 2) (mu 5) (mu (19 + 2 * g) 3) (dX mu g o fr)
def kX (mu : ab_mem) : Nat := (mu 7 3).toNatClampNeg
def IX (mu : ab_mem) : Prop := (∀ g, g < 3 → mu (19 + 2 * g) 1 = nI (nX mu g) ∧ nX mu g ≤ 24 ∧ mu (19 + 2 * g) 2 = fltF (fX mu g) 0 (nX mu g) ∧ ∀ k, k < nX mu g → fX mu g k = -1 ∨ vp_in (fX mu g k) 7) ∧ (∀ g, g < 3 → ∃ c, c ≤ 9 ∧ mu (19 + 2 * g) 3 = nI c) ∧ (kX mu ≤ 8 ∧ mu 7 3 = nI (kX mu)) ∧ (∀ k, k < 8 → ∃ g, g < 3 ∧ mu 8 k = nI g) ∧ (∀ k, k < 8 → ∃ h, h < 24 ∧ mu 9 k = nI h) ∧ (∀ k, k < 8 → ∃ b, mu 10 k = bI b) ∧ (∀ s, s < 4 → ∃ n, n ≤ 48 ∧ mu (34 + 2 * s) 2 = nI n) ∧ (∀ s, s < 4 → ∃ b, mu (34 + 2 * s) 3 = bI b)
theorem nX_p {mu mu2 : ab_mem} (h : pX mu2 = pX mu) {g : Nat} (hg : g < 3) : nX mu2 g = nX mu g := by unfold nX; rw [pX_at h _ (scG hg).1]
theorem fX_p {mu mu2 : ab_mem} (h : pX mu2 = pX mu) {g : Nat} (hg : g < 3) : fX mu2 g = fX mu g := pX_at h _ (scG hg).2
theorem tX_p {mu mu2 : ab_mem} (h : pX mu2 = pX mu) {g : Nat} (hg : g < 3) : tX mu2 g = tX mu g := by unfold tX; rw [nX_p h hg, pX_at h _ (scG hg).1]
theorem dX_p {mu mu2 : ab_mem} (h : pX mu2 = pX mu) {g : Nat} (hg : g < 3) : dX mu2 g = dX mu g := by funext o fr; unfold dX; rw [tX_p h hg, fX_p h hg]
theorem lX_p {mu mu2 : ab_mem} (h : pX mu2 = pX mu) {g : Nat} (hg : g < 3) : lX mu2 g = lX mu g := by funext o fr; unfold lX; rw [dX_p h hg, pX_at h 5 rfl, pX_at h _ (scG hg).1]
theorem bX_p {mu mu2 : ab_mem} (h : pX mu2 = pX mu) {g : Nat} (hg : g < 3) : bX mu2 g = bX mu g := by funext o fr; unfold bX; rw [dX_p h hg, pX_at h 5 rfl, pX_at h 4 rfl, pX_at h _ (scG hg).1]
theorem kX_p {mu mu2 : ab_mem} (h : pX mu2 = pX mu) : kX mu2 = kX mu := by unfold kX; rw [pX_at h 7 rfl]
theorem IX_p {mu mu2 : ab_mem} (h : pX mu2 = pX mu) (i : IX mu) : IX mu2 := by
  obtain ⟨h1, h2, h3, h4, h5, h6, h7, h8⟩ := i
  refine ⟨fun g hg => ?_, fun g hg => ?_, ?_, fun k hk => ?_, fun k hk => ?_, fun k hk => ?_, fun s hs => ?_, fun s hs => ?_⟩
  · rw [nX_p h hg, fX_p h hg, pX_at h _ (scG hg).1]; exact h1 g hg
  · rw [pX_at h _ (scG hg).1]; exact h2 g hg
  · rw [kX_p h, pX_at h 7 rfl]; exact h3
  · rw [pX_at h 8 rfl]; exact h4 k hk
  · rw [pX_at h 9 rfl]; exact h5 k hk
  · rw [pX_at h 10 rfl]; exact h6 k hk
  · rw [pX_at h _ (scS hs).1]; exact h7 s hs
  · rw [pX_at h _ (scS hs).1]; exact h8 s hs
theorem tX_le {mu : ab_mem} (i : IX mu) {g : Nat} (hg : g < 3) : tX mu g ≤ 24 := by
  have := (i.1 g hg).2.1
  unfold tX
  split <;> omega
theorem tX_n {mu : ab_mem} {g : Nat} : tX mu g ≤ nX mu g := by unfold tX; split <;> omega
theorem fX_in {mu : ab_mem} (i : IX mu) {g : Nat} (hg : g < 3) : ∀ k, k < tX mu g → vp_in (fX mu g k) 7 := by
  intro k hk
  obtain ⟨h1, h2, h3, h4⟩ := i.1 g hg
  unfold tX at hk
  split at hk
  · rename_i q
    rw [h3] at q
    have := fltF_all (f := fX mu g) (nX mu g) 0 (by omega) q k hk
    rw [Nat.zero_add] at this
    exact (h4 k hk).resolve_left this
  · omega
theorem dX_in {mu : ab_mem} (i : IX mu) {g : Nat} (hg : g < 3) (o fr h : Nat) : vp_in (dX mu g o fr h) 7 := dyD_in (fX_in i hg) h
def hhF (mk : Int32) (L D : Nat → Int32) : Nat → Int32
  | 0 => 0
  | h + 1 => hhF mk L D h ||| (if hicB mk (L h) (D h) then 1 <<< (nI h &&& 31) else 0)
theorem hhF_bt {mk c : Int32} {e L D d : Nat → Int32} : ∀ n, (∀ h, h < n → L h = lvB e c d (h + 1)) → (∀ h, h < n → D h = d h) → hhF mk L D n = btB mk e c d n := by
  intro n
  induction n with
  | zero => intro _ _; rfl
  | succ n ih =>
    intro h1 h2
    rw [hhF, btB, ih (fun h hh => h1 h (by omega)) (fun h hh => h2 h (by omega)), h1 n (by omega), h2 n (by omega)]
theorem or_0 (x : Int32) : x ||| 0 = x := by
  have : (0 : Int32) = nI 0 := rfl
  apply Int32.toBitVec_inj.mp
  simp
theorem lvB_congr {e : Nat → Int32} {c : Int32} {d d2 : Nat → Int32} : ∀ n, (∀ h, h < n → d h = d2 h) → lvB e c d n = lvB e c d2 n := by
  intro n
  induction n with
  | zero => intro _; rfl
  | succ n ih =>
    intro h
    rw [lvB, lvB, ih (fun k hk => h k (by omega)), h n (by omega)]
