/-! the two worlds' shapes -/
abbrev hp_ar (n : Nat) : ab_kd := .inr (.inl (0, n))
abbrev hp_az (n : Nat) : ab_kd := .inr (.inl (1, n))
abbrev hp_ob (ci : Nat) (fs : List (Option Nat)) : ab_kd := .inl (ci, fs)
def ShX : List ab_kd := [hp_ob 7 [some 1, some 2, some 3, some 4, some 7, some 11, some 14, some 17, none],
  .inr (.inr (2, [19, 21, 23])), .inr (.inr (3, [25, 28, 31])), .inr (.inr (4, [34, 36, 38, 40])),
  hp_ob 3 [some 5, some 6, none, none, none], hp_ar 7, hp_ar 7,
  hp_ob 5 [some 8, some 9, some 10, none], hp_ar 8, hp_ar 8, hp_ar 8,
  hp_ob 0 [some 12, some 13, none], hp_ar 24, hp_ar 24,
  hp_ob 2 [some 15, some 16], hp_ar 250, hp_ar 240,
  hp_ob 6 [some 18], hp_ar 100,
  hp_ob 1 [some 20, none, none, none], hp_ar 24, hp_ob 1 [some 22, none, none, none], hp_ar 24, hp_ob 1 [some 24, none, none, none], hp_ar 24,
  hp_ob 0 [some 26, some 27, none], hp_ar 24, hp_ar 24, hp_ob 0 [some 29, some 30, none], hp_ar 24, hp_ar 24, hp_ob 0 [some 32, some 33, none], hp_ar 24, hp_ar 24,
  hp_ob 4 [some 35, none, none, none], hp_ar 48, hp_ob 4 [some 37, none, none, none], hp_ar 48, hp_ob 4 [some 39, none, none, none], hp_ar 48, hp_ob 4 [some 41, none, none, none], hp_ar 48]
def ShM : List ab_kd := [hp_ob 8 [some 1, some 2, some 3, some 4, some 5, none, none, none, some 6, some 7, some 8, some 9, some 10, none, some 11, some 12, some 13, some 14, some 15, some 16, some 17, some 18, none],
  hp_ar 3, hp_ar 72, hp_ar 3, hp_ar 7, hp_ar 7, hp_ar 72, hp_ar 72, hp_ar 3, hp_ar 250, hp_az 1300, hp_ar 8, hp_ar 8, hp_ar 8, hp_az 4, hp_ar 4, hp_ar 4, hp_ar 192, hp_ar 48]
def hp_let : Nat → Int32 := fun j => if j = 0 then 110 else if j = 1 then 98 else if j = 2 then 99 else if j = 3 then 118 else if j = 4 then 102 else if j = 5 then 115 else 104
/-- what is carried along beside the class's world: links among nest mates, the letters -/
def evX (A : Nat → Prop) (U : State) : Prop := va_Nw (.methodLinkNest RX1 41 yX7_isDish RX7) U ∧ va_Nw (.methodLinkNest RX0 45 yX7_isHour RX7) U ∧ va_Nw (.methodLinkNest RX2 18 yX7_hasHour RX7) U ∧ va_Nw (.methodLinkNest RX3 28 yX7_isDish RX7) U ∧ va_Nw (.methodLinkNest RX5 25 yX7_hasHour RX7) U ∧ ∃ t : Nat, va_Z "HiccupPeace" "LETTERS" "[I" (.ref t) A U U.heap ∧ va_T .int t 7 (fun j => .int (hp_let j)) A U U.heap
def OKX (V : ab_V) : Prop := ab_OK V ShX ∧ ∀ U, V.2.2.2 U → evX (ab_A V ShX) U
abbrev OKM (V : ab_V) : Prop := ab_OK V ShM
/-! numbers -/
def bI (b : Bool) : Int32 := if b then 1 else 0
theorem nar_bI (b : Bool) : narrow .boolean (.int (bI b)) = .int (bI b) := by cases b <;> rfl
theorem fit_bI (b : Bool) : fits .boolean (.int (bI b)) = true := by cases b <;> rfl
theorem vnar_bI (b : Bool) : vp_nar .boolean (bI b) = bI b := by cases b <;> rfl
theorem bI_0 {b : Bool} : bI b = 0 ↔ b = false := by cases b <;> decide
theorem bI_1 {b : Bool} : bI b = 1 ↔ b = true := by cases b <;> decide
theorem bI_n0 {b : Bool} : ¬ bI b = 0 ↔ b = true := by cases b <;> decide
def inB (v a b : Int32) : Bool := decide (a ≤ v) && decide (v ≤ b)
theorem inB_t {v a b : Int32} : inB v a b = true ↔ a ≤ v ∧ v ≤ b := by simp [inB]
theorem inB_f {v a b : Int32} : inB v a b = false ↔ ¬ (a ≤ v ∧ v ≤ b) := by rw [← Bool.not_eq_true, inB_t]
def bitB (x k : Int32) : Bool := decide ((x >>> (k &&& 31)) &&& 1 = 1)
theorem inB_nI {g n : Nat} (h : g ≤ n) (hn : n < 2 ^ 31) : inB (nI g) 0 (nI n) = true := by
  rw [inB_t]
  exact ⟨nI_pos' (by omega), nI_le h hn⟩
theorem inB_of {a : Int32} (n : Nat) (hn : n < 2 ^ 31) (h : inB a 0 (nI n) = true) : ∃ g : Nat, g ≤ n ∧ a = nI g := by
  rw [inB_t] at h
  exact nI_of2 (M := nI n) (nI_toInt hn) (by rw [fa_lt]; have := h.1; rw [fa_le] at this; omega) h.2
theorem ix24 (g n : Nat) : (24 : Int32) * nI g + nI n = nI (24 * g + n) := by
  show nI 24 * nI g + nI n = _
  rw [pk_mul, nI_add]
theorem ix48 (g n : Nat) : (48 : Int32) * nI g + nI n = nI (48 * g + n) := by
  show nI 48 * nI g + nI n = _
  rw [pk_mul, nI_add]
theorem ab_up_o {mu : ab_mem} {q k : Nat} {x : Int32} {a : Nat} (h : a ≠ q) : ab_up mu q k x a = mu a := by simp [ab_up, h]
theorem ab_up_s {mu : ab_mem} {q k : Nat} {x : Int32} : ab_up mu q k x q = upd (mu q) k x := by simp [ab_up]
theorem ab_up_k {mu : ab_mem} {q k : Nat} {x : Int32} : ab_up mu q k x q k = x := by simp [ab_up, upd]
