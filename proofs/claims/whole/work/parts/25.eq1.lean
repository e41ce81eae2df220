/-! rows on bits, shifts and unsigned numbers, to paste: each family out of a closed proof of our own, whole with what it rests on; each by itself clean at Lean in its own claim (generation 39, form 5). Take a family whole -/
/-! ===== Int32 by its bits: bt x i ===== -/
def bt (x : Int32) (i : Nat) : Bool := x.toBitVec.getLsbD i
theorem b_ext {x y : Int32} (h : ∀ i, i < 32 → bt x i = bt y i) : x = y := Int32.toBitVec_inj.mp (BitVec.eq_of_getLsbD_eq (fun i hi => h i hi))
theorem b_or (x y : Int32) (i : Nat) : bt (x ||| y) i = (bt x i || bt y i) := by unfold bt; rw [Int32.toBitVec_or, BitVec.getLsbD_or]
theorem b_and (x y : Int32) (i : Nat) : bt (x &&& y) i = (bt x i && bt y i) := by unfold bt; rw [Int32.toBitVec_and, BitVec.getLsbD_and]
theorem b_xor (x y : Int32) (i : Nat) : bt (x ^^^ y) i = (bt x i ^^ bt y i) := by unfold bt; rw [Int32.toBitVec_xor, BitVec.getLsbD_xor]
theorem b_big {x : Int32} {i : Nat} (h : 32 ≤ i) : bt x i = false := BitVec.getLsbD_of_ge _ _ h
theorem b_255 (i : Nat) : bt 255 i = decide (i < 8) := by
  rcases Nat.lt_or_ge i 32 with h | h
  · exact (by decide +kernel : ∀ i, i < 32 → bt 255 i = decide (i < 8)) i h
  · rw [b_big h, decide_eq_false (by omega)]
theorem b_65535 (i : Nat) : bt 65535 i = decide (i < 16) := by
  rcases Nat.lt_or_ge i 32 with h | h
  · exact (by decide +kernel : ∀ i, i < 32 → bt 65535 i = decide (i < 16)) i h
  · rw [b_big h, decide_eq_false (by omega)]
theorem b_m1 : ∀ i, i < 32 → bt (-1) i = true := by decide +kernel
theorem b_0 (i : Nat) : bt 0 i = false := BitVec.getLsbD_zero
theorem s_l : ∀ n, n < 32 → ((nI n &&& 31).toBitVec.smod 32).toNat = n := by decide +kernel
theorem s_u : ∀ n, n < 32 → (((nI n).toUInt32 &&& Int32.toUInt32 31).toBitVec % 32).toNat = n := by decide +kernel
theorem b_shl (n : Nat) (hn : n < 32) (x : Int32) {i : Nat} (hi : i < 32) : bt (x <<< (nI n &&& 31)) i = (decide (n ≤ i) && bt x (i - n)) := by
  unfold bt
  rw [Int32.toBitVec_shiftLeft]
  show (x.toBitVec <<< ((nI n &&& 31).toBitVec.smod 32).toNat).getLsbD i = _
  rw [s_l n hn, BitVec.getLsbD_shiftLeft]
  rcases Nat.lt_or_ge i n with h | h
  · simp [h, Nat.not_le.mpr h]
  · simp [hi, h, Nat.not_lt.mpr h]
theorem b_ushr (n : Nat) (hn : n < 32) (x : Int32) (i : Nat) : bt ((x.toUInt32 >>> ((nI n).toUInt32 &&& Int32.toUInt32 31)).toInt32) i = bt x (n + i) := by
  show (x.toUInt32 >>> ((nI n).toUInt32 &&& Int32.toUInt32 31)).toBitVec.getLsbD i = x.toUInt32.toBitVec.getLsbD (n + i)
  rw [UInt32.toBitVec_shiftRight]
  show (x.toUInt32.toBitVec >>> (((nI n).toUInt32 &&& Int32.toUInt32 31).toBitVec % 32).toNat).getLsbD i = _
  rw [s_u n hn, BitVec.getLsbD_ushiftRight]
theorem b_sshr (n : Nat) (hn : n < 32) (x : Int32) {i : Nat} (hi : i < 32) : bt (x >>> (nI n &&& 31)) i = if n + i < 32 then bt x (n + i) else bt x 31 := by
  unfold bt
  rw [Int32.toBitVec_shiftRight]
  show (x.toBitVec.sshiftRight ((nI n &&& 31).toBitVec.smod 32).toNat).getLsbD i = _
  rw [s_l n hn, BitVec.getLsbD_sshiftRight, BitVec.msb_eq_getLsbD_last]
  simp [hi]
theorem b_shl8 (x : Int32) {i : Nat} (hi : i < 32) : bt (x <<< ((8 : Int32) &&& 31)) i = (decide (8 ≤ i) && bt x (i - 8)) := b_shl 8 (by omega) x hi
theorem b_shl16 (x : Int32) {i : Nat} (hi : i < 32) : bt (x <<< ((16 : Int32) &&& 31)) i = (decide (16 ≤ i) && bt x (i - 16)) := b_shl 16 (by omega) x hi
theorem b_shl24 (x : Int32) {i : Nat} (hi : i < 32) : bt (x <<< ((24 : Int32) &&& 31)) i = (decide (24 ≤ i) && bt x (i - 24)) := b_shl 24 (by omega) x hi
theorem b_sshr8 (x : Int32) {i : Nat} (hi : i < 32) : bt (x >>> ((8 : Int32) &&& 31)) i = if 8 + i < 32 then bt x (8 + i) else bt x 31 := b_sshr 8 (by omega) x hi
/-! bits of hours -/
theorem bt_one (i : Nat) : bt 1 i = decide (i = 0) := by
  unfold bt
  rcases Nat.lt_or_ge i 32 with h | h
  · have : ∀ i, i < 32 → (1 : Int32).toBitVec.getLsbD i = decide (i = 0) := by decide +kernel
    exact this i h
  · rw [BitVec.getLsbD_of_ge _ _ h]
    have : ¬ i = 0 := by omega
    simp [this]
theorem bt_1shl {h i : Nat} (hh : h < 32) (hi : i < 32) : bt ((1 : Int32) <<< (nI h &&& 31)) i = decide (i = h) := by
  rw [b_shl h hh _ hi, bt_one]
  by_cases e : i = h
  · subst e; simp
  · by_cases l : h ≤ i
    · have : ¬ i - h = 0 := by omega
      simp [e, this]
    · simp [e, l]
theorem bt_m24 : ∀ i, i < 32 → bt 16777215 i = decide (i < 24) := by decide +kernel
theorem and1_bt (y : Int32) : (y &&& 1 = 1 ↔ bt y 0 = true) ∧ (y &&& 1 = 0 ↔ bt y 0 = false) ∧ (y &&& 1 = bI (bt y 0)) := by
  have e : y &&& 1 = bI (bt y 0) := by
    apply b_ext
    intro i hi
    rw [b_and, bt_one]
    cases hb : bt y 0 with
    | true =>
      show _ = bt 1 i
      rw [bt_one]
      by_cases e : i = 0
      · subst e; simp [hb]
      · simp [e]
    | false =>
      show _ = bt 0 i
      rw [b_0]
      by_cases e : i = 0
      · subst e; simp [hb]
      · simp [e]
  rw [e]
  cases bt y 0 <;> decide
theorem sh_bt {x : Int32} {k : Nat} (hk : k < 32) : (x >>> (nI k &&& 31)) &&& 1 = bI (bt x k) := by
  rw [(and1_bt _).2.2, b_sshr k hk x (by decide)]
  rw [if_pos (by omega)]
  rfl
theorem bitB_bt {x : Int32} {k : Nat} (hk : k < 32) : bitB x (nI k) = bt x k := by
  unfold bitB
  rw [sh_bt hk]
  cases bt x k <;> decide
theorem bt_btB {mk c : Int32} {e d : Nat → Int32} : ∀ n, n ≤ 24 → ∀ i, i < 32 → bt (btB mk e c d n) i = (decide (i < n) && hicB mk (lvB e c d (i + 1)) (d i)) := by
  intro n
  induction n with
  | zero =>
    intro _ i hi
    show bt 0 i = _
    rw [b_0]
    simp
  | succ n ih =>
    intro hn i hi
    rw [btB, b_or, ih (by omega) i hi]
    by_cases e1 : i = n
    · subst e1
      have : i < i + 1 := by omega
      simp only [this, Nat.lt_irrefl, decide_false, Bool.false_and, Bool.false_or, decide_true, Bool.true_and]
      cases hicB mk (lvB e c d (i + 1)) (d i) with
      | true => rw [if_pos rfl, bt_1shl (by omega) hi]; simp
      | false => rw [if_neg (by decide), b_0]
    · have h2 : bt (if hicB mk (lvB e c d (n + 1)) (d n) = true then (1 : Int32) <<< (nI n &&& 31) else 0) i = false := by
        split
        · rw [bt_1shl (by omega) hi]; simp [e1]
        · rw [b_0]
      rw [h2, Bool.or_false]
      have : (i < n + 1) ↔ i < n := by omega
      simp [this]
def B24 (x : Int32) : Prop := ∀ i, 24 ≤ i → i < 32 → bt x i = false
theorem btB_24 {mk c : Int32} {e d : Nat → Int32} : B24 (btB mk e c d 24) := by
  intro i h1 h2
  rw [bt_btB 24 (by decide) i h2]
  have : ¬ i < 24 := by omega
  simp [this]
theorem B24_and {x y : Int32} (h : B24 x) : B24 (x &&& y) := fun i h1 h2 => by rw [b_and, h i h1 h2]; rfl
theorem B24_or {x y : Int32} (h : B24 x) (h2 : B24 y) : B24 (x ||| y) := fun i h1 h3 => by rw [b_or, h i h1 h3, h2 i h1 h3]; rfl
theorem B24_xor {x y : Int32} (h : B24 x) (h2 : B24 y) : B24 (x ^^^ y) := fun i h1 h3 => by rw [b_xor, h i h1 h3, h2 i h1 h3]; rfl
theorem B24_mask {x : Int32} (h : B24 x) : x &&& 16777215 = x := by
  apply b_ext
  intro i hi
  rw [b_and, bt_m24 i hi]
  rcases Nat.lt_or_ge i 24 with h1 | h1
  · simp [h1]
  · rw [h i h1 hi]; rfl
theorem and_comm32 (x y : Int32) : x &&& y = y &&& x := by apply b_ext; intro i _; rw [b_and, b_and, Bool.and_comm]
theorem B24_nat {x : Int32} (h : B24 x) : ∃ n, n < 2 ^ 24 ∧ x = nI n := by
  refine ⟨x.toBitVec.toNat, ?_, Int32.toBitVec_inj.mp (by show _ = BitVec.ofNat 32 _; simp)⟩
  apply Nat.lt_pow_two_of_testBit
  intro i hi
  rcases Nat.lt_or_ge i 32 with h1 | h1
  · exact h i hi h1
  · exact BitVec.getLsbD_of_ge _ _ h1
/-! the count of bits, both ways -/
theorem and_sp (r a b M m : Nat) (hb : b < 2 ^ r) (hm : m < 2 ^ r) : (2 ^ r * a + b) &&& (2 ^ r * M + m) = 2 ^ r * (a &&& M) + (b &&& m) := by
  apply Nat.eq_of_testBit_eq
  intro j
  have hbm : b &&& m < 2 ^ r := Nat.lt_of_le_of_lt Nat.and_le_left hb
  rw [Nat.testBit_and, Nat.testBit_two_pow_mul_add _ hb, Nat.testBit_two_pow_mul_add _ hm, Nat.testBit_two_pow_mul_add _ hbm]
  split <;> rw [Nat.testBit_and]
/-- the places of ones, summed -/
def obN (n : Nat) : Nat → Nat
  | 0 => 0
  | k + 1 => obN n k + n / 2 ^ k % 2
theorem obN_le (n : Nat) : ∀ k, obN n k ≤ k := by
  intro k
  induction k with
  | zero => exact Nat.le_refl _
  | succ k ih => rw [obN]; have := Nat.mod_lt (n / 2 ^ k) (by decide : 2 > 0); omega
theorem onesF_nI {n : Nat} (hn : n < 2 ^ 24) : ∀ k, k ≤ 24 → onesF (nI n) k = nI (obN n k) := by
  intro k
  induction k with
  | zero => intro _; rfl
  | succ k ih =>
    intro hk
    rw [onesF, obN, ih (by omega), sh_bt (by omega)]
    have e : bt (nI n) k = decide (n / 2 ^ k % 2 = 1) := by
      show (BitVec.ofNat 32 n).getLsbD k = _
      rw [BitVec.getLsbD_ofNat, Nat.testBit_eq_decide_div_mod_eq]
      simp
      omega
    rw [e]
    have : n / 2 ^ k % 2 = 0 ∨ n / 2 ^ k % 2 = 1 := by omega
    rcases this with h | h <;> rw [h]
    · exact nI_add (obN n k) 0
    · exact nI_add (obN n k) 1
theorem usr_nI {n k : Nat} (hn : n < 2 ^ 31) (hk : k < 32) : usr (nI n) (nI k) = nI (n / 2 ^ k) := by
  apply b_ext
  intro i hi
  unfold usr
  rw [b_ushr k hk]
  show (BitVec.ofNat 32 n).getLsbD (k + i) = (BitVec.ofNat 32 (n / 2 ^ k)).getLsbD i
  rw [BitVec.getLsbD_ofNat, BitVec.getLsbD_ofNat, Nat.testBit_div_two_pow]
  rw [show i + k = k + i by omega]
  rcases Nat.lt_or_ge (k + i) 32 with h | h
  · simp [h, hi]
  · have hlt : n < 2 ^ (k + i) := Nat.lt_of_lt_of_le hn (Nat.pow_le_pow_right (by decide) (by omega))
    rw [Nat.testBit_lt_two_pow hlt]
    simp
/-- masks in Horner's form -/
def m55 : Nat → Nat
  | 0 => 0
  | k + 1 => 4 * m55 k + 1
theorem and55 (d y M : Nat) (h : d < 4) : ((d + 4 * y) / 2) &&& (4 * M + 1) = d / 2 + 4 * ((y / 2) &&& M) := by
  have e : (d + 4 * y) / 2 = 2 ^ 2 * (y / 2) + (2 * (y % 2) + d / 2) := by omega
  rw [e, show 4 * M + 1 = 2 ^ 2 * M + 1 from rfl, and_sp 2 _ _ _ _ (by omega) (by decide), Nat.and_one_is_mod]
  omega
theorem and33 (a b y M : Nat) (ha : a < 4) (hb : b < 4) : (a + 4 * (b + 4 * y)) &&& (16 * M + 3) = a + 16 * (y &&& M) := by
  have e : a + 4 * (b + 4 * y) = 2 ^ 4 * y + (4 * b + a) := by omega
  rw [e, show 16 * M + 3 = 2 ^ 4 * M + 3 from rfl, and_sp 4 _ _ _ _ (by omega) (by decide), show (3 : Nat) = 2 ^ 2 - 1 from rfl, Nat.and_two_pow_sub_one_eq_mod]
  omega
theorem and0f (a b y M : Nat) (ha : a < 16) (hb : b < 16) : (a + 16 * (b + 16 * y)) &&& (256 * M + 15) = a + 256 * (y &&& M) := by
  have e : a + 16 * (b + 16 * y) = 2 ^ 8 * y + (16 * b + a) := by omega
  rw [e, show 256 * M + 15 = 2 ^ 8 * M + 15 from rfl, and_sp 8 _ _ _ _ (by omega) (by decide), show (15 : Nat) = 2 ^ 4 - 1 from rfl, Nat.and_two_pow_sub_one_eq_mod]
  omega
def m33 : Nat → Nat
  | 0 => 0
  | k + 1 => 16 * m33 k + 3
def q1 : Nat → Nat → Nat
  | 0, _ => 0
  | k + 1, n => (n % 4 - n % 4 / 2) + 4 * q1 k (n / 4)
def q2 : Nat → Nat → Nat
  | 0, _ => 0
  | k + 1, p => (p % 4 + p / 4 % 4) + 16 * q2 k (p / 16)
def qn : Nat → Nat → Nat
  | 0, _ => 0
  | k + 1, n => ((n % 4 - n % 4 / 2) + (n / 4 % 4 - n / 4 % 4 / 2)) + 16 * qn k (n / 16)
def sN : Nat → Nat → Nat
  | 0, _ => 0
  | k + 1, n => ((n % 4 - n % 4 / 2) + (n / 4 % 4 - n / 4 % 4 / 2)) + sN k (n / 16)
theorem st1 (d y a p : Nat) (hd : d < 4) (hp : y - a = p ∧ a ≤ y) : d + 4 * y - (d / 2 + 4 * a) = (d - d / 2) + 4 * p ∧ d / 2 + 4 * a ≤ d + 4 * y := by omega
theorem q1_ok : ∀ k n, n < 4 ^ k → n - (n / 2 &&& m55 k) = q1 k n ∧ (n / 2 &&& m55 k) ≤ n := by
  intro k
  induction k with
  | zero => intro n hn; have : n = 0 := by simpa using hn
            subst this; exact ⟨rfl, Nat.le_refl _⟩
  | succ k ih =>
    intro n hn
    have h4 : n / 4 < 4 ^ k := by rw [Nat.pow_succ] at hn; omega
    have hd : n % 4 < 4 := Nat.mod_lt _ (by decide)
    have e : n = n % 4 + 4 * (n / 4) := by omega
    have hA : n / 2 &&& m55 (k + 1) = n % 4 / 2 + 4 * (n / 4 / 2 &&& m55 k) := by
      have := and55 (n % 4) (n / 4) (m55 k) hd
      rw [← e] at this
      exact this
    have := st1 (n % 4) (n / 4) _ _ hd (ih _ h4)
    rw [← e] at this
    rw [hA, q1]
    exact this
theorem q2_ok : ∀ k p, (p &&& m33 k) + (p / 4 &&& m33 k) = q2 k p := by
  intro k
  induction k with
  | zero => intro p; rw [m33, Nat.and_zero, Nat.and_zero]; rfl
  | succ k ih =>
    intro p
    have h1 := and33 (p % 4) (p / 4 % 4) (p / 16) (m33 k) (Nat.mod_lt _ (by decide)) (Nat.mod_lt _ (by decide))
    have h2 := and33 (p / 4 % 4) (p / 16 % 4) (p / 16 / 4) (m33 k) (Nat.mod_lt _ (by decide)) (Nat.mod_lt _ (by decide))
    rw [show p % 4 + 4 * (p / 4 % 4 + 4 * (p / 16)) = p by omega] at h1
    rw [show p / 4 % 4 + 4 * (p / 16 % 4 + 4 * (p / 16 / 4)) = p / 4 by omega] at h2
    rw [m33, h1, h2, q2, ← ih (p / 16)]
    omega
theorem qn_ar (a b z : Nat) (ha : a < 4) (hb : b < 4) : (a + 4 * (b + 4 * z)) % 4 = a ∧ (a + 4 * (b + 4 * z)) / 4 % 4 = b ∧ (a + 4 * (b + 4 * z)) / 16 = z := by omega
theorem qn_ok : ∀ k n, q2 k (q1 (2 * k) n) = qn k n := by
  intro k
  induction k with
  | zero => intro n; rfl
  | succ k ih =>
    intro n
    have h := qn_ar (n % 4 - n % 4 / 2) (n / 4 % 4 - n / 4 % 4 / 2) (q1 (2 * k) (n / 4 / 4)) (by omega) (by omega)
    rw [show 2 * (k + 1) = 2 * k + 1 + 1 by omega, q1, q1, q2, h.1, h.2.1, h.2.2, qn, ih, Nat.div_div_eq_div_mul]
theorem obN_split (n k : Nat) : ∀ j, obN n (k + j) = obN n k + obN (n / 2 ^ k) j := by
  intro j
  induction j with
  | zero => rfl
  | succ j ih =>
    rw [← Nat.add_assoc, obN, ih, obN, Nat.div_div_eq_div_mul, ← Nat.pow_add]
    omega
theorem obN_4 (n : Nat) : obN n 4 = (n % 4 - n % 4 / 2) + (n / 4 % 4 - n / 4 % 4 / 2) := by
  simp only [obN]
  omega
theorem obN_sN : ∀ k n, obN n (4 * k) = sN k n := by
  intro k
  induction k with
  | zero => intro n; rfl
  | succ k ih =>
    intro n
    rw [show 4 * (k + 1) = 4 + 4 * k by omega, obN_split, ih, obN_4, sN]
theorem bc_end (n0 n1 n2 n3 n4 n5 s : Nat) (h0 : n0 < 5) (h1 : n1 < 5) (h2 : n2 < 5) (h3 : n3 < 5) (h4 : n4 < 5) (h5 : n5 < 5) (es : s = n0 + 16 * (n1 + 16 * (n2 + 16 * (n3 + 16 * (n4 + 16 * (n5 + 16 * 0)))))) : bc5 (bc4 (bc3 (nI s))) &&& 63 = nI (n0 + (n1 + (n2 + (n3 + (n4 + (n5 + 0)))))) := by
  have f3 : (s + s / 16) &&& 252645135 = (n0 + n1) + 256 * ((n2 + n3) + 256 * (n4 + n5)) := by
    have e : s + s / 16 = (n0 + n1) + 16 * ((n1 + n2) + 16 * ((n2 + n3) + 16 * ((n3 + n4) + 16 * ((n4 + n5) + 16 * (n5 + 16 * 0))))) := by omega
    rw [e, show (252645135 : Nat) = 256 * 986895 + 15 from rfl, and0f _ _ _ _ (by omega) (by omega), show (986895 : Nat) = 256 * 3855 + 15 from rfl, and0f _ _ _ _ (by omega) (by omega), show (3855 : Nat) = 256 * 15 + 15 from rfl, and0f _ _ _ _ (by omega) (by omega), Nat.zero_and, Nat.mul_zero, Nat.add_zero]
  have b3 : bc3 (nI s) = nI ((n0 + n1) + 256 * ((n2 + n3) + 256 * (n4 + n5))) := by
    unfold bc3
    rw [show usr (nI s) 4 = nI (s / 2 ^ 4) from usr_nI (by omega) (by decide), nI_add, show (252645135 : Int32) = nI 252645135 from rfl, fa_and, show (2 : Nat) ^ 4 = 16 from rfl, f3]
  rw [b3]
  obtain ⟨c0, hc0⟩ : ∃ c, n0 + n1 = c := ⟨_, rfl⟩
  obtain ⟨c1, hc1⟩ : ∃ c, n2 + n3 = c := ⟨_, rfl⟩
  obtain ⟨c2, hc2⟩ : ∃ c, n4 + n5 = c := ⟨_, rfl⟩
  have g0 : c0 < 9 := by omega
  have g1 : c1 < 9 := by omega
  have g2 : c2 < 9 := by omega
  have fin : n0 + (n1 + (n2 + (n3 + (n4 + (n5 + 0))))) = c0 + c1 + c2 := by omega
  rw [fin, hc0, hc1, hc2]
  clear fin hc0 hc1 hc2 b3 f3 es h0 h1 h2 h3 h4 h5
  obtain ⟨t, et⟩ : ∃ t, t = c0 + 256 * (c1 + 256 * c2) := ⟨_, rfl⟩
  rw [← et]
  have b4 : bc4 (nI t) = nI (t + t / 256) := by
    unfold bc4
    rw [show usr (nI t) 8 = nI (t / 2 ^ 8) from usr_nI (by omega) (by decide), nI_add]
  rw [b4]
  obtain ⟨r, er⟩ : ∃ r, r = t + t / 256 := ⟨_, rfl⟩
  rw [← er]
  have b5 : bc5 (nI r) = nI (r + r / 65536) := by
    unfold bc5
    rw [show usr (nI r) 16 = nI (r / 2 ^ 16) from usr_nI (by omega) (by decide), nI_add]
  rw [b5, show (63 : Int32) = nI (2 ^ 6 - 1) from rfl, fa_mask]
  have t1 : t / 256 = c1 + 256 * c2 := by omega
  have r1 : r = (c0 + c1) + 256 * (c1 + c2) + 65536 * c2 := by omega
  have r2 : r / 65536 = c2 := by omega
  have : (r + r / 65536) % 2 ^ 6 = c0 + c1 + c2 := by rw [r2, r1, show (2 : Nat) ^ 6 = 64 from rfl]; omega
  rw [this]
theorem q1_le : ∀ k n, n < 4 ^ k → q1 k n ≤ n := by
  intro k n h
  have := (q1_ok k n h).1
  omega
theorem bcF_n {n : Nat} (hn : n < 2 ^ 24) : bcF (nI n) = nI (obN n 24) := by
  have k1 := q1_ok 16 n (by rw [show (4 : Nat) ^ 16 = 4294967296 from rfl]; omega)
  have l1 := q1_le 16 n (by rw [show (4 : Nat) ^ 16 = 4294967296 from rfl]; omega)
  rw [show m55 16 = 1431655765 from rfl] at k1
  have b1 : bc1 (nI n) = nI (q1 16 n) := by
    unfold bc1
    rw [show usr (nI n) 1 = nI (n / 2 ^ 1) from usr_nI (by omega) (by decide), show (1431655765 : Int32) = nI 1431655765 from rfl, fa_and, Nat.pow_one, pk_sub k1.2, k1.1]
  have k2 := q2_ok 8 (q1 16 n)
  rw [show m33 8 = 858993459 from rfl] at k2
  have b2 : bc2 (nI (q1 16 n)) = nI (qn 8 n) := by
    unfold bc2
    rw [show usr (nI (q1 16 n)) 2 = nI (q1 16 n / 2 ^ 2) from usr_nI (by omega) (by decide), show (858993459 : Int32) = nI 858993459 from rfl, fa_and, fa_and, nI_add, show (2 : Nat) ^ 2 = 4 from rfl, k2, ← qn_ok 8 n]
  have z6 : n / 16 / 16 / 16 / 16 / 16 / 16 = 0 := by omega
  have e8 : qn 8 n = qn 6 n := by simp only [qn, z6]
  rw [show (24 : Nat) = 4 * 6 from rfl, obN_sN]
  unfold bcF
  rw [b1, b2, e8]
  simp only [qn, sN]
  exact bc_end _ _ _ _ _ _ _ (by omega) (by omega) (by omega) (by omega) (by omega) (by omega) rfl
theorem bcF_ones {x : Int32} (h : B24 x) : bcF x = onesF x 24 := by
  obtain ⟨n, hn, rfl⟩ := B24_nat h
  rw [bcF_n hn, onesF_nI hn 24 (Nat.le_refl _)]
theorem ones_le {x : Int32} (h : B24 x) : ∃ k, k ≤ 24 ∧ onesF x 24 = nI k := by
  obtain ⟨n, hn, rfl⟩ := B24_nat h
  exact ⟨_, obN_le n 24, onesF_nI hn 24 (Nat.le_refl _)⟩
/-! the longest armistice, both ways -/
def clr (x : Int32) (a l : Nat) : Prop := ∀ i, a ≤ i → i < a + l → bitB x (nI i) = false
theorem rl_clr {x : Int32} : ∀ n j, clr x j (rlF x j n) ∧ rlF x j n ≤ n ∧ ∀ l, l ≤ n → clr x j l → l ≤ rlF x j n := by
  intro n
  induction n with
  | zero => intro j; exact ⟨fun i h1 h2 => by simp only [rlF] at h2; omega, Nat.le_refl _, fun l h _ => h⟩
  | succ n ih =>
    intro j
    obtain ⟨h1, h2, h3⟩ := ih (j + 1)
    rw [rlF]
    by_cases hb : bitB x (nI j) = true
    · rw [if_pos hb]
      refine ⟨fun i a b => by omega, by omega, fun l hl hc => ?_⟩
      rcases Nat.eq_zero_or_pos l with h | h
      · omega
      · have := hc j (Nat.le_refl _) (by omega)
        rw [hb] at this
        cases this
    · rw [if_neg hb]
      refine ⟨fun i a b => ?_, by omega, fun l hl hc => ?_⟩
      · by_cases e : i = j
        · subst e; simpa using hb
        · exact h1 i (by omega) (by omega)
      · rcases Nat.eq_zero_or_pos l with h | h
        · omega
        · have := h3 (l - 1) (by omega) (fun i a b => hc i (by omega) (by omega))
          omega
theorem ln_clr {x : Int32} : ∀ j, clr x (j - lnX x j) (lnX x j) ∧ lnX x j ≤ j ∧ ∀ l, l ≤ j → clr x (j - l) l → l ≤ lnX x j := by
  intro j
  induction j with
  | zero => exact ⟨fun i h1 h2 => by simp only [lnX] at h2; omega, Nat.le_refl _, fun l h _ => h⟩
  | succ j ih =>
    obtain ⟨h1, h2, h3⟩ := ih
    rw [lnX]
    by_cases hb : bitB x (nI j) = true
    · rw [if_pos hb]
      refine ⟨fun i a b => by omega, by omega, fun l hl hc => ?_⟩
      rcases Nat.eq_zero_or_pos l with h | h
      · omega
      · have := hc j (by omega) (by omega)
        rw [hb] at this
        cases this
    · rw [if_neg hb]
      refine ⟨fun i a b => ?_, by omega, fun l hl hc => ?_⟩
      · by_cases e : i = j
        · subst e; simpa using hb
        · exact h1 i (by omega) (by omega)
      · rcases Nat.eq_zero_or_pos l with h | h
        · omega
        · have := h3 (l - 1) (by omega) (fun i a b => hc i (by omega) (by omega))
          omega
/-- what both must be: the first of the longest -/
def ArS (x : Int32) (r : Int32 × Nat) (Q : Nat → Nat → Prop) (j : Nat) : Prop := ((r.2 = 0 ∧ r.1 = -1) ∨ ∃ s, r.1 = nI s ∧ 0 < r.2 ∧ Q s r.2 ∧ clr x s r.2 ∧ ∀ a, Q a r.2 → clr x a r.2 → s ≤ a) ∧ ∀ a l, Q a l → clr x a l → l ≤ r.2
theorem arM_ok {x : Int32} : ∀ j, j ≤ 24 → ArS x (arM x j) (fun a l => a < j ∧ a + l ≤ 24) j := by
  intro j
  induction j with
  | zero => intro _; exact ⟨Or.inl ⟨rfl, rfl⟩, fun a l q => by omega⟩
  | succ j ih =>
    intro hj
    obtain ⟨h1, h2⟩ := ih (by omega)
    obtain ⟨g1, g2, g3⟩ := rl_clr (x := x) (24 - j) j
    rw [arM]
    by_cases hc : (arM x j).2 < rlF x j (24 - j)
    · rw [if_pos hc]
      refine ⟨Or.inr ⟨j, rfl, by omega, ⟨by omega, by omega⟩, g1, fun a q qc => ?_⟩, fun a l q qc => ?_⟩
      · rcases Nat.lt_or_ge a j with h | h
        · have := h2 a _ ⟨h, q.2⟩ qc
          omega
        · exact h
      · rcases Nat.lt_or_ge a j with h | h
        · have := h2 a l ⟨h, q.2⟩ qc
          show l ≤ rlF x j (24 - j)
          omega
        · have e : a = j := by omega
          subst e
          exact g3 l (by omega) qc
    · rw [if_neg hc]
      refine ⟨?_, fun a l q qc => ?_⟩
      · rcases h1 with h | ⟨s, e1, e2, e3, e4, e5⟩
        · exact Or.inl h
        · refine Or.inr ⟨s, e1, e2, ⟨by omega, e3.2⟩, e4, fun a q qc => ?_⟩
          rcases Nat.lt_or_ge a j with h | h
          · exact e5 a ⟨h, q.2⟩ qc
          · omega
      · rcases Nat.lt_or_ge a j with h | h
        · exact h2 a l ⟨h, q.2⟩ qc
        · have e : a = j := by omega
          subst e
          have := g3 l (by omega) qc
          omega
theorem arX_ok {x : Int32} : ∀ j, j ≤ 24 → ArS x (arX x j) (fun a l => 0 < l ∧ a + l ≤ j) j := by
  intro j
  induction j with
  | zero => intro _; exact ⟨Or.inl ⟨rfl, rfl⟩, fun a l q => by omega⟩
  | succ j ih =>
    intro hj
    obtain ⟨h1, h2⟩ := ih (by omega)
    obtain ⟨g1, g2, g3⟩ := ln_clr (x := x) (j + 1)
    rw [arX]
    by_cases hc : (arX x j).2 < lnX x (j + 1)
    · rw [if_pos hc]
      refine ⟨Or.inr ⟨j + 1 - lnX x (j + 1), ?_, by omega, ⟨by omega, by omega⟩, g1, fun a q qc => ?_⟩, fun a l q qc => ?_⟩
      · show nI j - nI (lnX x (j + 1)) + 1 = _
        have e : nI j - nI (lnX x (j + 1)) + 1 = (nI j + 1) - nI (lnX x (j + 1)) := by
          apply Int32.toBitVec_inj.mp
          simp only [Int32.toBitVec_sub, Int32.toBitVec_add]
          generalize (nI j).toBitVec = p
          generalize (nI (lnX x (j + 1))).toBitVec = q
          generalize (1 : Int32).toBitVec = o
          rw [BitVec.sub_eq_add_neg, BitVec.sub_eq_add_neg, BitVec.add_assoc, BitVec.add_assoc, BitVec.add_comm (-q) o]
        rw [e, nI_1, pk_sub g2]
      · show j + 1 - lnX x (j + 1) ≤ a
        have hq : a + lnX x (j + 1) ≤ j + 1 := q.2
        rcases Nat.lt_or_ge (a + lnX x (j + 1)) (j + 1) with h | h
        · have := h2 a _ ⟨q.1, by omega⟩ qc
          omega
        · omega
      · show l ≤ lnX x (j + 1)
        rcases Nat.lt_or_ge (a + l) (j + 1) with h | h
        · have := h2 a l ⟨q.1, by omega⟩ qc
          omega
        · have e : a = j + 1 - l := by omega
          subst e
          exact g3 l (by omega) qc
    · rw [if_neg hc]
      have big : ∀ a l, a + l = j + 1 → clr x a l → l ≤ (arX x j).2 := fun a l q qc => by
        have e : a = j + 1 - l := by omega
        subst e
        have := g3 l (by omega) qc
        omega
      refine ⟨?_, fun a l q qc => ?_⟩
      · rcases h1 with h | ⟨s, e1, e2, e3, e4, e5⟩
        · exact Or.inl h
        · refine Or.inr ⟨s, e1, e2, ⟨e3.1, by omega⟩, e4, fun a q qc => ?_⟩
          rcases Nat.lt_or_ge (a + (arX x j).2) (j + 1) with h | h
          · exact e5 a ⟨e2, by omega⟩ qc
          · omega
      · rcases Nat.lt_or_ge (a + l) (j + 1) with h | h
        · exact h2 a l ⟨q.1, by omega⟩ qc
        · exact big a l (by omega) qc
theorem ar_eq (x : Int32) : arX x 24 = arM x 24 := by
  obtain ⟨a1, a2⟩ := arX_ok (x := x) 24 (Nat.le_refl _)
  obtain ⟨b1, b2⟩ := arM_ok (x := x) 24 (Nat.le_refl _)
  have eL : (arX x 24).2 = (arM x 24).2 := by
    apply Nat.le_antisymm
    · rcases a1 with h | ⟨s, e1, e2, e3, e4, e5⟩
      · omega
      · exact b2 s _ ⟨by omega, e3.2⟩ e4
    · rcases b1 with h | ⟨s, e1, e2, e3, e4, e5⟩
      · omega
      · exact a2 s _ ⟨e2, e3.2⟩ e4
  refine Prod.ext ?_ eL
  rcases a1 with h | ⟨s, e1, e2, e3, e4, e5⟩
  · rcases b1 with k | ⟨t, f1, f2, f3, f4, f5⟩
    · rw [h.2, k.2]
    · omega
  · rcases b1 with k | ⟨t, f1, f2, f3, f4, f5⟩
    · omega
    · rw [eL] at e3 e4 e5
      have h1 := e5 t ⟨f2, f3.2⟩ f4
      have h2 := f5 s ⟨by omega, e3.2⟩ e4
      rw [e1, f1, Nat.le_antisymm h1 h2]
/-! unlike hours, training -/
set_option maxHeartbeats 200000 in
theorem un_split {who hr is : Nat → Int32} {b : Nat → Int32} : ∀ n, n ≤ 8 → (∀ k, k < 8 → ∃ g, g < 3 ∧ who k = nI g) → (∀ k, k < 8 → ∃ h, h < 24 ∧ hr k = nI h) → (∀ k, k < 8 → ∃ c, is k = bI c) → (unF who hr is (nI 0) (b 0) n + unF who hr is (nI 1) (b 1) n) + unF who hr is (nI 2) (b 2) n = ulF who hr is b n := by
  intro n
  induction n with
  | zero => intro _ _ _ _; rfl
  | succ n ih =>
    intro hn h1 h2 h3
    have ih := ih (by omega) h1 h2 h3
    obtain ⟨g, hg, eg⟩ := h1 n (by omega)
    obtain ⟨h, hh, eh⟩ := h2 n (by omega)
    obtain ⟨c, ec⟩ := h3 n (by omega)
    simp only [unF, ulF]
    rw [← ih, eg, eh, ec, nI_clamp (by omega), sh_bt (by omega)]
    have bb : ∀ x, bitB x (nI h) = bt x h := fun x => bitB_bt (by omega)
    simp only [bb]
    have ec1 : decide (bI c = 1) = c := by cases c <;> decide
    rw [ec1]
    have key : ∀ (x : Bool), (bI x = bI c) = (x = c) := by intro x; cases x <;> cases c <;> decide
    have c32 : ∀ (p q r o : Int32), (p + o + q) + r = (p + q + r) + o ∧ (p + (q + o)) + r = (p + q + r) + o ∧ (p + q) + (r + o) = (p + q + r) + o := by
      intro p q r o
      refine ⟨?_, ?_, ?_⟩ <;> (apply Int32.toBitVec_inj.mp; simp only [Int32.toBitVec_add]; ac_rfl)
    have z32 : ∀ p : Int32, p + 0 = p := fun p => by simp
    rcases (show g = 0 ∨ g = 1 ∨ g = 2 by omega) with rfl | rfl | rfl
    · simp only [show (nI 0 = nI 0) = True by simp, show (nI 0 = nI 1) = False from eq_false (by decide), show (nI 0 = nI 2) = False from eq_false (by decide), true_and, false_and, if_false, key]
      by_cases e : bt (b 0) h = c
      · simp only [e, not_true_eq_false, if_false, if_true, z32]
      · simp only [e, not_false_eq_true, if_true, if_false]; exact (c32 _ _ _ _).1
    · simp only [show (nI 1 = nI 1) = True by simp, show (nI 1 = nI 0) = False from eq_false (by decide), show (nI 1 = nI 2) = False from eq_false (by decide), true_and, false_and, if_false, key]
      by_cases e : bt (b 1) h = c
      · simp only [e, not_true_eq_false, if_false, if_true, z32]
      · simp only [e, not_false_eq_true, if_true, if_false]; exact (c32 _ _ _ _).2.1
    · simp only [show (nI 2 = nI 2) = True by simp, show (nI 2 = nI 0) = False from eq_false (by decide), show (nI 2 = nI 1) = False from eq_false (by decide), true_and, false_and, if_false, key]
      by_cases e : bt (b 2) h = c
      · simp only [e, not_true_eq_false, if_false, if_true, z32]
      · simp only [e, not_false_eq_true, if_true, if_false]; exact (c32 _ _ _ _).2.2
theorem tr_eq {lk : Nat → Int32} (h : -1 < lk 0) : ∀ n, trX lk (n + 1) = trM lk (n + 1) := by
  intro n
  induction n with
  | zero => rw [trX, trM, trX, trM, if_pos h, if_pos h]
  | succ n ih => rw [trX, trM, ih]
