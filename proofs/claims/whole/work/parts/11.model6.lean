/-! the cheapest menu: costs by remaining hours and level -/
def qN (e : Nat → Int32) (v d : Nat) : Nat := (nxt e (nI v) (nI d)).toNatClampNeg
theorem qN_ok (e : Nat → Int32) (v d : Nat) : qN e v d ≤ 9 ∧ nxt e (nI v) (nI d) = nI (qN e v d) := by
  obtain ⟨c, hc, h⟩ := nxt_nI e (nI v) (nI d)
  unfold qN
  rw [h, nI_clamp (by omega)]
  exact ⟨hc, rfl⟩
def qMS (e : Nat → Int32) (mk law fb : Int32) (v d : Nat) (ob : Bool) : Bool := !bitB fb (nI d) && !(if law = 1 then hicB mk (nxt e (nI v) (nI d)) (nI d) || ob else hicB mk (nxt e (nI v) (nI d)) (nI d) && ob)
def bsF (ms : Nat → Bool) (by_ : Nat → Int32) : Nat → Int32
  | 0 => 1000000
  | d + 1 => if ms d = true ∧ by_ d < bsF ms by_ d then by_ d else bsF ms by_ d
def bdF (ms : Nat → Bool) (by_ : Nat → Int32) : Nat → Nat
  | 0 => 0
  | d + 1 => if ms d = true ∧ by_ d < bsF ms by_ d then d else bdF ms by_ d
def qC (e pr : Nat → Int32) (mk law fb other : Int32) (to : Nat) : Nat → Nat → Int32
  | 0 => fun _ => 0
  | k + 1 => fun v => bsF (fun d => qMS e mk law fb v d (bitB other (nI (to - k)))) (fun d => pr d + qC e pr mk law fb other to k (qN e v d)) 7
def qB (e pr : Nat → Int32) (mk law fb other : Int32) (to k v : Nat) : Nat := bdF (fun d => qMS e mk law fb v d (bitB other (nI (to - k)))) (fun d => pr d + qC e pr mk law fb other to k (qN e v d)) 7
/-- what is least, and where first -/
theorem bsF_le (ms : Nat → Bool) (by_ : Nat → Int32) : ∀ n, (bsF ms by_ n).toInt ≤ 1000000 ∧ ∀ d, d < n → ms d = true → (bsF ms by_ n).toInt ≤ (by_ d).toInt := by
  intro n
  induction n with
  | zero => exact ⟨by show (1000000 : Int32).toInt ≤ 1000000; decide, fun d h => by omega⟩
  | succ n ih =>
    rw [bsF]
    split
    · rename_i q
      have q2 := (fa_lt _ _).mp q.2
      refine ⟨by omega, fun d hd hm => ?_⟩
      by_cases e : d = n
      · rw [e]; omega
      · have := ih.2 d (by omega) hm; omega
    · rename_i q
      refine ⟨ih.1, fun d hd hm => ?_⟩
      by_cases e : d = n
      · subst e
        have : ¬ by_ d < bsF ms by_ d := fun z => q ⟨hm, z⟩
        rw [fa_lt] at this
        omega
      · exact ih.2 d (by omega) hm
theorem bdF_ok (ms : Nat → Bool) (by_ : Nat → Int32) : ∀ n, (bsF ms by_ n).toInt < 1000000 → bdF ms by_ n < n ∧ ms (bdF ms by_ n) = true ∧ by_ (bdF ms by_ n) = bsF ms by_ n ∧ ∀ d, d < bdF ms by_ n → ¬ (ms d = true ∧ by_ d = bsF ms by_ n) := by
  intro n
  induction n with
  | zero => intro h; exact absurd h (by show ¬ (1000000 : Int32).toInt < 1000000; decide)
  | succ n ih =>
    intro h
    rw [bsF] at h
    rw [bdF, bsF]
    split
    · rename_i q
      refine ⟨by omega, q.1, rfl, fun d hd z => ?_⟩
      have := (bsF_le ms by_ n).2 d hd z.1
      have q2 := (fa_lt _ _).mp q.2
      rw [z.2] at this
      omega
    · rename_i q
      rw [if_neg q] at h
      obtain ⟨h1, h2, h3, h4⟩ := ih h
      exact ⟨by omega, h2, h3, h4⟩

abbrev rm_X8_mayServe : Room := { frames := 1, cells := 0, slots := 0, locals := 23 }
set_option maxRecDepth 20000 in
theorem us_X8_mayServe_8 : ∀ w ∈ u_ws RX8 TX8 23, w ∈ wsX8_mayServe := by decide +kernel
set_option maxRecDepth 20000 in
theorem fl_X8_mayServe_89 : FL RX8 wsX8_mayServe 89 8 6 := ⟨RX8, TX8, 23, rfl, by decide, us_X8_mayServe_8, by decide +kernel⟩
set_option maxRecDepth 20000 in
theorem fl_X8_mayServe_92 : FL RX8 wsX8_mayServe 92 8 7 := ⟨RX8, TX8, 23, rfl, by decide, us_X8_mayServe_8, by decide +kernel⟩
theorem k_X8_mayServe_107 : KV RX8 wsX8_mayServe rm_X8_mayServe 107 RX8 yX8_next wsX8_next rm_X8_next 2 := ⟨_, _, _, _, gX8_mayServe_X8_next, rfl, rfl, rfl, by decide +kernel, by decide⟩
theorem k_X8_mayServe_111 : KV RX8 wsX8_mayServe rm_X8_mayServe 111 RX8 yX8_doesHiccup wsX8_doesHiccup rm_X8_doesHiccup 2 := ⟨_, _, _, _, gX8_mayServe_X8_doesHiccup, rfl, rfl, rfl, by decide +kernel, by decide⟩
theorem k_X8_mayServe_138 : KS RX8 wsX8_mayServe rm_X8_mayServe 138 yX8_isIn wsX8_isIn rm_X8_isIn 2 := ⟨_, _, _, _, gX8_mayServe_X8_isIn, rfl, rfl, rfl, by decide +kernel, by decide⟩

set_option maxHeartbeats 4000000 in
set_option maxRecDepth 100000 in
theorem c_X8_mayServe {l : Launch} {V : ab_V} {mu : ab_mem} {v d : Nat} {ob : Bool} (hV : ab_OK V ShM) (hd : d < 7) : CT l V ShM yX8_mayServe wsX8_mayServe rm_X8_mayServe [.ref (aL V 0), .int (nI v), .int (nI d), .int (bI ob)] mu (pI (fun r mu2 => r = bI (qMS (mu 4) (mu 0 5) (mu 0 6) (mu 0 7) v d ob) ∧ mu = mu2)) := by
  refine ab_enter hV (by decide) rfl (Nat.le_of_ble_eq_true rfl) ?_
  intro X B E
  have B : CX X l rm_X8_mayServe RX8 cX8_mayServe wsX8_mayServe 6 V ShM := B
  show AW X V ShM 6 0 [some (.ref (aL V 0)), some (.int (nI v)), some (.int (nI d)), some (.int (bI ob)), none, none] [] mu
  have t52 : ∀ b : Bool, b = (if mu 0 6 = 1 then (hicB (mu 0 5) (nxt (mu 4) (nI v) (nI d)) (nI d)) || ob else (hicB (mu 0 5) (nxt (mu 4) (nI v) (nI d)) (nI d)) && ob) → AW X V ShM 6 52 [some (.ref (aL V 0)), some (.int (nI v)), some (.int (nI d)), some (.int (bI ob)), some (.int (bI (hicB (mu 0 5) (nxt (mu 4) (nI v) (nI d)) (nI d)))), none] [.int (bI b)] mu := by
    intro b hb
    refine a_istore B dX8_mayServe_52 (by decide) ?_
    refine a_aload_n B dX8_mayServe_54 rfl ?_
    refine a_geti B fl_X8_mayServe_92 (by first | rfl | assumption) rfl dX8_mayServe_55 ?_
    refine a_iload_n B dX8_mayServe_58 rfl ?_
    refine a_callSi B k_X8_mayServe_138 (c_X8_isIn hV) rfl rfl (Nat.le_of_ble_eq_true rfl) dX8_mayServe_59 (fun r59 mu59 h59 => ?_)
    obtain ⟨rfl, rfl⟩ := h59
    refine a_if_ne (tgt := 74) B dX8_mayServe_62 (by decide) (fun c62 => ?_) (fun c62 => ?_)
    · refine a_iconst (v := 0) B dX8_mayServe_74 (by decide) ?_
      refine a_zreturn B E dX8_mayServe_75 (by first | rfl | exact nar_bI _) ?_
      refine ⟨?_, rfl⟩
      first
        | (rw [qMS, ← hb, bI_n0.mp c62]; rfl)
        | (rw [qMS, ← hb, bI_0.mp c62, bI_n0.mp c67]; rfl)
        | (rw [qMS, ← hb, bI_0.mp c62, bI_0.mp c67]; rfl)
    · refine a_iload B dX8_mayServe_65 rfl ?_
      refine a_if_ne (tgt := 74) B dX8_mayServe_67 (by decide) (fun c67 => ?_) (fun c67 => ?_)
      · refine a_iconst (v := 0) B dX8_mayServe_74 (by decide) ?_
        refine a_zreturn B E dX8_mayServe_75 (by first | rfl | exact nar_bI _) ?_
        refine ⟨?_, rfl⟩
        first
          | (rw [qMS, ← hb, bI_n0.mp c62]; rfl)
          | (rw [qMS, ← hb, bI_0.mp c62, bI_n0.mp c67]; rfl)
          | (rw [qMS, ← hb, bI_0.mp c62, bI_0.mp c67]; rfl)
      · refine a_iconst (v := 1) B dX8_mayServe_70 (by decide) ?_
        refine a_goto (tgt := 75) B dX8_mayServe_71 (by decide) ?_
        refine a_zreturn B E dX8_mayServe_75 (by first | rfl | exact nar_bI _) ?_
        refine ⟨?_, rfl⟩
        first
          | (rw [qMS, ← hb, bI_n0.mp c62]; rfl)
          | (rw [qMS, ← hb, bI_0.mp c62, bI_n0.mp c67]; rfl)
          | (rw [qMS, ← hb, bI_0.mp c62, bI_0.mp c67]; rfl)
  refine a_aload_n B dX8_mayServe_0 rfl ?_
  refine a_aload_n B dX8_mayServe_1 rfl ?_
  refine a_iload_n B dX8_mayServe_2 rfl ?_
  refine a_iload_n B dX8_mayServe_3 rfl ?_
  refine a_callVi B k_X8_mayServe_107 (c_X8_next hV (vp_in_nI (by omega) (by decide))) (by first | rfl | assumption) rfl rfl rfl (Nat.le_of_ble_eq_true rfl) dX8_mayServe_4 (fun r4 mu4 h4 => ?_)
  obtain ⟨rfl, rfl⟩ := h4
  refine a_iload_n B dX8_mayServe_7 rfl ?_
  refine a_callVi B k_X8_mayServe_111 (c_X8_doesHiccup hV) (by first | rfl | assumption) rfl rfl rfl (Nat.le_of_ble_eq_true rfl) dX8_mayServe_8 (fun r8 mu8 h8 => ?_)
  obtain ⟨rfl, rfl⟩ := h8
  refine a_istore B dX8_mayServe_11 (by decide) ?_
  refine a_aload_n B dX8_mayServe_13 rfl ?_
  refine a_geti B fl_X8_mayServe_89 (by first | rfl | assumption) rfl dX8_mayServe_14 ?_
  refine a_iconst (v := 1) B dX8_mayServe_17 (by decide) ?_
  refine a_icmp_ne (tgt := 38) B dX8_mayServe_18 (by decide) (fun c18 => ?_) (fun c18 => ?_)
  · refine a_iload B dX8_mayServe_38 rfl ?_
    refine a_if_eq (tgt := 51) B dX8_mayServe_40 (by decide) (fun c40 => ?_) (fun c40 => ?_)
    · refine a_iconst (v := 0) B dX8_mayServe_51 (by decide) ?_
      refine t52 false ?_
      first
        | rw [if_pos c18]
        | rw [if_neg c18]
      first
        | (rw [bI_n0.mp c23]; rfl)
        | (rw [bI_0.mp c23, bI_n0.mp c27]; rfl)
        | (rw [bI_0.mp c23, bI_0.mp c27]; rfl)
        | (rw [bI_0.mp c40]; rfl)
        | (rw [bI_n0.mp c40, bI_n0.mp c44]; rfl)
        | (rw [bI_n0.mp c40, bI_0.mp c44]; rfl)
    · refine a_iload_n B dX8_mayServe_43 rfl ?_
      refine a_if_eq (tgt := 51) B dX8_mayServe_44 (by decide) (fun c44 => ?_) (fun c44 => ?_)
      · refine a_iconst (v := 0) B dX8_mayServe_51 (by decide) ?_
        refine t52 false ?_
        first
          | rw [if_pos c18]
          | rw [if_neg c18]
        first
          | (rw [bI_n0.mp c23]; rfl)
          | (rw [bI_0.mp c23, bI_n0.mp c27]; rfl)
          | (rw [bI_0.mp c23, bI_0.mp c27]; rfl)
          | (rw [bI_0.mp c40]; rfl)
          | (rw [bI_n0.mp c40, bI_n0.mp c44]; rfl)
          | (rw [bI_n0.mp c40, bI_0.mp c44]; rfl)
      · refine a_iconst (v := 1) B dX8_mayServe_47 (by decide) ?_
        refine a_goto (tgt := 52) B dX8_mayServe_48 (by decide) ?_
        refine t52 true ?_
        first
          | rw [if_pos c18]
          | rw [if_neg c18]
        first
          | (rw [bI_n0.mp c23]; rfl)
          | (rw [bI_0.mp c23, bI_n0.mp c27]; rfl)
          | (rw [bI_0.mp c23, bI_0.mp c27]; rfl)
          | (rw [bI_0.mp c40]; rfl)
          | (rw [bI_n0.mp c40, bI_n0.mp c44]; rfl)
          | (rw [bI_n0.mp c40, bI_0.mp c44]; rfl)
  · refine a_iload B dX8_mayServe_21 rfl ?_
    refine a_if_ne (tgt := 30) B dX8_mayServe_23 (by decide) (fun c23 => ?_) (fun c23 => ?_)
    · refine a_iconst (v := 1) B dX8_mayServe_30 (by decide) ?_
      refine a_goto (tgt := 52) B dX8_mayServe_31 (by decide) ?_
      refine t52 true ?_
      first
        | rw [if_pos c18]
        | rw [if_neg c18]
      first
        | (rw [bI_n0.mp c23]; rfl)
        | (rw [bI_0.mp c23, bI_n0.mp c27]; rfl)
        | (rw [bI_0.mp c23, bI_0.mp c27]; rfl)
        | (rw [bI_0.mp c40]; rfl)
        | (rw [bI_n0.mp c40, bI_n0.mp c44]; rfl)
        | (rw [bI_n0.mp c40, bI_0.mp c44]; rfl)
    · refine a_iload_n B dX8_mayServe_26 rfl ?_
      refine a_if_eq (tgt := 34) B dX8_mayServe_27 (by decide) (fun c27 => ?_) (fun c27 => ?_)
      · refine a_iconst (v := 0) B dX8_mayServe_34 (by decide) ?_
        refine a_goto (tgt := 52) B dX8_mayServe_35 (by decide) ?_
        refine t52 false ?_
        first
          | rw [if_pos c18]
          | rw [if_neg c18]
        first
          | (rw [bI_n0.mp c23]; rfl)
          | (rw [bI_0.mp c23, bI_n0.mp c27]; rfl)
          | (rw [bI_0.mp c23, bI_0.mp c27]; rfl)
          | (rw [bI_0.mp c40]; rfl)
          | (rw [bI_n0.mp c40, bI_n0.mp c44]; rfl)
          | (rw [bI_n0.mp c40, bI_0.mp c44]; rfl)
      · refine a_iconst (v := 1) B dX8_mayServe_30 (by decide) ?_
        refine a_goto (tgt := 52) B dX8_mayServe_31 (by decide) ?_
        refine t52 true ?_
        first
          | rw [if_pos c18]
          | rw [if_neg c18]
        first
          | (rw [bI_n0.mp c23]; rfl)
          | (rw [bI_0.mp c23, bI_n0.mp c27]; rfl)
          | (rw [bI_0.mp c23, bI_0.mp c27]; rfl)
          | (rw [bI_0.mp c40]; rfl)
          | (rw [bI_n0.mp c40, bI_n0.mp c44]; rfl)
          | (rw [bI_n0.mp c40, bI_0.mp c44]; rfl)
theorem ix10 (g n : Nat) : (10 : Int32) * nI g + nI n = nI (10 * g + n) := by
  show nI 10 * nI g + nI n = _
  rw [pk_mul, nI_add]
theorem ix10s (g n : Nat) : (10 : Int32) * (nI g + 1) + nI n = nI (10 * (g + 1) + n) := by
  rw [nI_1, ix10]
def oM (mu : ab_mem) (g : Nat) : Int32 := bM mu (1 - g) 0 99 24
def cM (mu : ab_mem) (g to : Nat) : Nat → Nat → Int32 := qC (mu 4) (mu 5) (mu 0 5) (mu 0 6) (mu 0 7) (oM mu g) to
def msM (mu : ab_mem) (g to k v d : Nat) : Bool := qMS (mu 4) (mu 0 5) (mu 0 6) (mu 0 7) v d (bitB (oM mu g) (nI (to - k)))
def byM (mu : ab_mem) (g to k v d : Nat) : Int32 := mu 5 d + cM mu g to k (qN (mu 4) v d)
/-- rows of costs from hour b on stand -/
def QI (mu muL : ab_mem) (g to b : Nat) (mu1 : ab_mem) : Prop := pM mu1 = pM mu ∧ mu1 7 = muL 7 ∧ ∀ h, b ≤ h → h ≤ to + 1 → ∀ v, v < 10 → mu1 9 (10 * h + v) = cM mu g to (to + 1 - h) v
theorem QI_up {mu muL : ab_mem} {g to b j : Nat} {mu1 : ab_mem} {x : Int32} (h : pM mu1 = pM mu ∧ mu1 7 = muL 7 ∧ (∀ h, b + 1 ≤ h → h ≤ to + 1 → ∀ v, v < 10 → mu1 9 (10 * h + v) = cM mu g to (to + 1 - h) v) ∧ ∀ v, v < j → mu1 9 (10 * b + v) = cM mu g to (to + 1 - b) v) (hj : j < 10) (hx : x = cM mu g to (to + 1 - b) j) : pM (ab_up mu1 9 (10 * b + j) x) = pM mu ∧ (ab_up mu1 9 (10 * b + j) x) 7 = muL 7 ∧ (∀ h, b + 1 ≤ h → h ≤ to + 1 → ∀ v, v < 10 → (ab_up mu1 9 (10 * b + j) x) 9 (10 * h + v) = cM mu g to (to + 1 - h) v) ∧ ∀ v, v < j + 1 → (ab_up mu1 9 (10 * b + j) x) 9 (10 * b + v) = cM mu g to (to + 1 - b) v := by
  obtain ⟨h1, h2, h3, h4⟩ := h
  refine ⟨by rw [pM_up rfl, h1], by rw [ab_up_o (by decide), h2], fun h hb ht v hv => ?_, fun v hv => ?_⟩
  · rw [ab_up_s, pk_un (by omega)]
    exact h3 h hb ht v hv
  · rw [ab_up_s]
    by_cases e : v = j
    · rw [e, pk_us, hx]
    · rw [pk_un (by omega)]
      exact h4 v (by omega)
/-- prices aren't below 0 -/
def PO (pr : Nat → Int32) : Prop := ∀ d, d < 7 → 0 ≤ (pr d).toInt ∧ (pr d).toInt ≤ 99
theorem qC_rng {e pr : Nat → Int32} {mk law fb other : Int32} {to : Nat} (hp : PO pr) : ∀ k v, 0 ≤ (qC e pr mk law fb other to k v).toInt ∧ (qC e pr mk law fb other to k v).toInt ≤ 1000000 := by
  intro k
  induction k with
  | zero => intro v; exact ⟨by show 0 ≤ (0 : Int32).toInt; decide, by show (0 : Int32).toInt ≤ 1000000; decide⟩
  | succ k ih =>
    intro v
    have key : ∀ (ms : Nat → Bool) n, n ≤ 7 → 0 ≤ (bsF ms (fun d => pr d + qC e pr mk law fb other to k (qN e v d)) n).toInt := by
      intro ms n
      induction n with
      | zero => intro _; show 0 ≤ (1000000 : Int32).toInt; decide
      | succ n ih2 =>
        intro hn
        rw [bsF]
        split
        · have h1 := hp n (by omega)
          have h2 := ih (qN e v n)
          show 0 ≤ (pr n + qC e pr mk law fb other to k (qN e v n)).toInt
          rw [fb_addI (by omega) (by omega)]
          omega
        · exact ih2 (by omega)
    exact ⟨key _ 7 (by omega), (bsF_le _ _ 7).1⟩
/-- along the cheapest way each hour's dish is there, and the rest costs no more -/
theorem qB_ok {e pr : Nat → Int32} {mk law fb other : Int32} {to k v : Nat} (hp : PO pr) (h : (qC e pr mk law fb other to (k + 1) v).toInt < 1000000) : qB e pr mk law fb other to k v < 7 ∧ (qC e pr mk law fb other to k (qN e v (qB e pr mk law fb other to k v))).toInt < 1000000 := by
  obtain ⟨h1, h2, h3, -⟩ := bdF_ok _ _ 7 h
  refine ⟨h1, ?_⟩
  have h4 := hp _ h1
  have h5 := qC_rng (e := e) (mk := mk) (law := law) (fb := fb) (other := other) (to := to) hp k (qN e v (qB e pr mk law fb other to k v))
  have h6 : (pr (qB e pr mk law fb other to k v) + qC e pr mk law fb other to k (qN e v (qB e pr mk law fb other to k v))).toInt < 1000000 := by
    have e3 : pr (qB e pr mk law fb other to k v) + qC e pr mk law fb other to k (qN e v (qB e pr mk law fb other to k v)) = qC e pr mk law fb other to (k + 1) v := h3
    rw [e3]; exact h
  have h4' : 0 ≤ (pr (qB e pr mk law fb other to k v)).toInt ∧ (pr (qB e pr mk law fb other to k v)).toInt ≤ 99 := h4
  rw [fb_addI (by omega) (by omega)] at h6
  omega
/-- the level after j hours of the cheapest way over K hours -/
def qP (e pr : Nat → Int32) (mk law fb other : Int32) (to K v0 : Nat) : Nat → Nat
  | 0 => v0
  | j + 1 => qN e (qP e pr mk law fb other to K v0 j) (qB e pr mk law fb other to (K - 1 - j) (qP e pr mk law fb other to K v0 j))
theorem qP_ok {e pr : Nat → Int32} {mk law fb other : Int32} {to K v0 : Nat} (hp : PO pr) (hv : v0 ≤ 9) (h : (qC e pr mk law fb other to K v0).toInt < 1000000) : ∀ j, j ≤ K → qP e pr mk law fb other to K v0 j ≤ 9 ∧ (qC e pr mk law fb other to (K - j) (qP e pr mk law fb other to K v0 j)).toInt < 1000000 := by
  intro j
  induction j with
  | zero => intro _; exact ⟨hv, h⟩
  | succ j ih =>
    intro hj
    have h1 := (ih (by omega)).2
    rw [show K - j = (K - 1 - j) + 1 by omega] at h1
    refine ⟨(qN_ok _ _ _).1, ?_⟩
    have := (qB_ok hp h1).2
    rw [show K - (j + 1) = K - 1 - j by omega]
    exact this
/-- quiet's answer: K hours up to to, from level v0 -/
def qR (e pr : Nat → Int32) (mk law fb other : Int32) (to K v0 : Nat) (i : Int32) : Int32 := if 1000000 ≤ qC e pr mk law fb other to K v0 then -1 else if i = -1 then qC e pr mk law fb other to K v0 else nI (qB e pr mk law fb other to (K - 1 - i.toNatClampNeg) (qP e pr mk law fb other to K v0 i.toNatClampNeg))
def lvN (mu : ab_mem) (g h : Nat) : Nat := (lM mu g 0 99 h).toNatClampNeg
theorem lvN_ok {mu : ab_mem} (i : IM mu) {g : Nat} (hg : g < 3) (h : Nat) : lvN mu g h ≤ 9 ∧ lM mu g 0 99 h = nI (lvN mu g h) := by
  obtain ⟨c, hc, e⟩ := lvB_nI (e := mu 4) (dM mu g 0 99) (i.2.1 g hg) h
  have e' : lM mu g 0 99 h = nI c := e
  unfold lvN
  rw [e', nI_clamp (by omega)]
  exact ⟨hc, rfl⟩

/-- the first place from i on, of k, that is ok -/
def lsF (ok : Nat → Bool) (i : Nat) : Nat → Int32
  | 0 => -1
  | k + 1 => if ok i then nI i else lsF ok (i + 1) k
theorem lsF_eq {ok : Nat → Bool} {D : Nat} (h : ok D = true) : ∀ k i, i ≤ D → D < i + k → (∀ d, i ≤ d → d < D → ok d = false) → lsF ok i k = nI D := by
  intro k
  induction k with
  | zero => intro i h1 h2; omega
  | succ k ih =>
    intro i h1 h2 h3
    rw [lsF]
    by_cases e : i = D
    · rw [e, if_pos h]
    · rw [if_neg (by rw [h3 i (Nat.le_refl _) (by omega)]; decide)]
      exact ih (i + 1) (by omega) (by omega) (fun d hd => h3 d (by omega))
theorem lsF_step {ok : Nat → Bool} {n : Nat} (h : n < 7) : lsF ok n (7 - n) = if ok n then nI n else lsF ok (n + 1) (7 - (n + 1)) := by
  rw [show 7 - n = (7 - (n + 1)) + 1 by omega, lsF]
theorem pre_lt (n : Nat) (h : n < 2 ^ 30) : nI n + -1 < nI n := by
  have e : (-1 : Int32).toInt = -1 := by decide
  have e2 := nI_toInt (n := n) (by omega)
  rw [fa_lt, fb_addI (by omega) (by omega)]
  omega
def okM (mu : ab_mem) (g to k v d : Nat) : Bool := msM mu g to k v d && decide (byM mu g to k v d = cM mu g to (k + 1) v)
theorem okM_first {mu : ab_mem} {g to k v : Nat} (h : (cM mu g to (k + 1) v).toInt < 1000000) : lsF (okM mu g to k v) 0 7 = nI (qB (mu 4) (mu 5) (mu 0 5) (mu 0 6) (mu 0 7) (oM mu g) to k v) := by
  obtain ⟨h1, h2, h3, h4⟩ := bdF_ok _ _ 7 h
  refine lsF_eq ?_ 7 0 (Nat.zero_le _) (by rw [Nat.zero_add]; exact h1) (fun d _ hd => ?_)
  · show (_ && decide _) = true
    rw [Bool.and_eq_true, decide_eq_true_eq]
    exact ⟨h2, h3⟩
  · have := h4 d hd
    show (_ && decide _) = false
    rw [Bool.and_eq_false_iff, decide_eq_false_iff_not]
    by_cases z : msM mu g to k v d = true
    · exact Or.inr (fun q => this ⟨z, q⟩)
    · exact Or.inl (by simpa using z)
abbrev rm_X8_quietOf : Room := { frames := 5, cells := 0, slots := 0, locals := 112 }
set_option maxRecDepth 20000 in
theorem us_X8_quietOf_8 : ∀ w ∈ u_ws RX8 TX8 23, w ∈ wsX8_quietOf := by decide +kernel
set_option maxRecDepth 20000 in
theorem fl_X8_quietOf_16 : FL RX8 wsX8_quietOf 16 8 2 := ⟨RX8, TX8, 23, rfl, by decide, us_X8_quietOf_8, by decide +kernel⟩
set_option maxRecDepth 20000 in
theorem fl_X8_quietOf_22 : FL RX8 wsX8_quietOf 22 8 4 := ⟨RX8, TX8, 23, rfl, by decide, us_X8_quietOf_8, by decide +kernel⟩
set_option maxRecDepth 20000 in
theorem fl_X8_quietOf_28 : FL RX8 wsX8_quietOf 28 8 9 := ⟨RX8, TX8, 23, rfl, by decide, us_X8_quietOf_8, by decide +kernel⟩
set_option maxRecDepth 20000 in
theorem fl_X8_quietOf_31 : FL RX8 wsX8_quietOf 31 8 10 := ⟨RX8, TX8, 23, rfl, by decide, us_X8_quietOf_8, by decide +kernel⟩
set_option maxRecDepth 20000 in
theorem fl_X8_quietOf_34 : FL RX8 wsX8_quietOf 34 8 11 := ⟨RX8, TX8, 23, rfl, by decide, us_X8_quietOf_8, by decide +kernel⟩
theorem k_X8_quietOf_107 : KV RX8 wsX8_quietOf rm_X8_quietOf 107 RX8 yX8_next wsX8_next rm_X8_next 2 := ⟨_, _, _, _, gX8_quietOf_X8_next, rfl, rfl, rfl, by decide +kernel, by decide⟩
theorem k_X8_quietOf_119 : KV RX8 wsX8_quietOf rm_X8_quietOf 119 RX8 yX8_laysAll wsX8_laysAll rm_X8_laysAll 0 := ⟨_, _, _, _, gX8_quietOf_X8_laysAll, rfl, rfl, rfl, by decide +kernel, by decide⟩
theorem k_X8_quietOf_138 : KS RX8 wsX8_quietOf rm_X8_quietOf 138 yX8_isIn wsX8_isIn rm_X8_isIn 2 := ⟨_, _, _, _, gX8_quietOf_X8_isIn, rfl, rfl, rfl, by decide +kernel, by decide⟩
theorem k_X8_quietOf_173 : KV RX8 wsX8_quietOf rm_X8_quietOf 173 RX8 yX8_mayServe wsX8_mayServe rm_X8_mayServe 3 := ⟨_, _, _, _, gX8_quietOf_X8_mayServe, rfl, rfl, rfl, by decide +kernel, by decide⟩

set_option maxHeartbeats 4000000 in
set_option maxRecDepth 100000 in
theorem c_X8_quietOf {l : Launch} {V : ab_V} {mu : ab_mem} {g fr to : Nat} {i : Int32} (hV : ab_OK V ShM) (hi : IM mu) (hpo : PO (mu 5)) (hg : g < 2) (hft : fr ≤ to) (hto : to < 24) (hii : i = -1 ∨ ∃ ii, ii < to + 1 - fr ∧ i = nI ii) : CT l V ShM yX8_quietOf wsX8_quietOf rm_X8_quietOf [.ref (aL V 0), .int (nI g), .int (nI fr), .int (nI to), .int i] mu (pI (fun r mu2 => r = qR (mu 4) (mu 5) (mu 0 5) (mu 0 6) (mu 0 7) (oM mu g) to (to + 1 - fr) (lvN mu g fr) i ∧ pM mu2 = pM mu)) := by
  refine ab_enter hV (by decide) rfl (Nat.le_of_ble_eq_true rfl) ?_
  intro X B E
  have B : CX X l rm_X8_quietOf RX8 cX8_quietOf wsX8_quietOf 12 V ShM := B
  show AW X V ShM 12 0 [some (.ref (aL V 0)), some (.int (nI g)), some (.int (nI fr)), some (.int (nI to)), some (.int i), none, none, none, none, none, none, none] [] mu
  have main : ∀ muL, LA mu muL → AW X V ShM 12 17 [some (.ref (aL V 0)), some (.int (nI g)), some (.int (nI fr)), some (.int (nI to)), some (.int i), some (.int (oM mu g)), some (.int 0), none, none, none, none, none] [] muL := by
    intro muL h1
    have hv0 := (lvN_ok hi (g := g) (by omega) fr).1
    have k245 : ∀ mu1, QI mu muL g to fr mu1 → ∀ ii, ii < (to + 1 - fr) → i = nI ii → ¬ i = -1 → (cM mu g to (to + 1 - fr) (lvN mu g fr)).toInt < 1000000 → AW X V ShM 12 245 [some (.ref (aL V 0)), some (.int (nI g)), some (.int (nI fr)), some (.int (nI to)), some (.int i), some (.int (oM mu g)), some (.int (nI (lvN mu g fr))), some (.int (cM mu g to (to + 1 - fr) (lvN mu g fr))), none, none, none, none] [] mu1 := by
      intro mu1 hq ii hii2 ei hne hlt
      subst ei
      have hpath := qP_ok (e := mu 4) (mk := mu 0 5) (law := mu 0 6) (fb := mu 0 7) (other := oM mu g) (to := to) (K := (to + 1 - fr)) (v0 := (lvN mu g fr)) hpo hv0 hlt
      have l251 : ∀ (m j : Nat), j + m = ii + 1 → ∀ x8 : Int32, (∀ j2, j = j2 + 1 → x8 = nI (qB (mu 4) (mu 5) (mu 0 5) (mu 0 6) (mu 0 7) (oM mu g) to ((to + 1 - fr) - 1 - j2) (qP (mu 4) (mu 5) (mu 0 5) (mu 0 6) (mu 0 7) (oM mu g) to (to + 1 - fr) (lvN mu g fr) j2))) → AW X V ShM 12 251 [some (.ref (aL V 0)), some (.int (nI g)), some (.int (nI fr)), some (.int (nI to)), some (.int (nI ii)), some (.int (oM mu g)), some (.int (nI (qP (mu 4) (mu 5) (mu 0 5) (mu 0 6) (mu 0 7) (oM mu g) to (to + 1 - fr) (lvN mu g fr) j))), some (.int (cM mu g to (to + 1 - fr) (lvN mu g fr))), some (.int x8), some (.int (nI (fr + j))), none, none] [] mu1 := by
        intro m
        induction m with
        | zero =>
          intro j hj x8 h8
          refine a_iload B dX8_quietOf_251 rfl ?_
          refine a_iload_n B dX8_quietOf_253 rfl ?_
          refine a_iload B dX8_quietOf_254 rfl ?_
          refine a_iadd B dX8_quietOf_256 ?_
          refine a_icmp_gt_t (tgt := 378) B dX8_quietOf_257 (by decide) (by rw [nI_add]; exact nI_lt (by omega) (by omega)) ?_
          refine a_iload B dX8_quietOf_378 rfl ?_
          refine a_ireturn B E dX8_quietOf_380 ?_
          refine ⟨?_, hq.1⟩
          have ej : j = ii + 1 := by omega
          rw [h8 ii ej]
          show _ = qR _ _ _ _ _ _ _ _ _ _
          rw [qR, if_neg (Int32.not_le.mpr ((fa_lt _ _).mpr hlt)), if_neg hne, nI_clamp (by omega)]
        | succ m ih =>
          intro j hj x8 h8
          have hpj := (hpath j (by omega)).1
          have hc : (cM mu g to ((to + 1 - fr) - 1 - j + 1) (qP (mu 4) (mu 5) (mu 0 5) (mu 0 6) (mu 0 7) (oM mu g) to (to + 1 - fr) (lvN mu g fr) j)).toInt < 1000000 := by
            have z := (hpath j (by omega)).2
            rwa [show (to + 1 - fr) - j = (to + 1 - fr) - 1 - j + 1 by omega] at z
          have hB : (qB (mu 4) (mu 5) (mu 0 5) (mu 0 6) (mu 0 7) (oM mu g) to ((to + 1 - fr) - 1 - j) (qP (mu 4) (mu 5) (mu 0 5) (mu 0 6) (mu 0 7) (oM mu g) to (to + 1 - fr) (lvN mu g fr) j)) < 7 := (qB_ok hpo hc).1
          have k362 : ∀ x10, AW X V ShM 12 362 [some (.ref (aL V 0)), some (.int (nI g)), some (.int (nI fr)), some (.int (nI to)), some (.int (nI ii)), some (.int (oM mu g)), some (.int (nI (qP (mu 4) (mu 5) (mu 0 5) (mu 0 6) (mu 0 7) (oM mu g) to (to + 1 - fr) (lvN mu g fr) j))), some (.int (cM mu g to (to + 1 - fr) (lvN mu g fr))), some (.int (nI (qB (mu 4) (mu 5) (mu 0 5) (mu 0 6) (mu 0 7) (oM mu g) to ((to + 1 - fr) - 1 - j) (qP (mu 4) (mu 5) (mu 0 5) (mu 0 6) (mu 0 7) (oM mu g) to (to + 1 - fr) (lvN mu g fr) j)))), some (.int (nI (fr + j))), some (.int x10), none] [] mu1 := by
            intro x10
            refine a_aload_n B dX8_quietOf_362 rfl ?_
            refine a_iload B dX8_quietOf_363 rfl ?_
            refine a_iload B dX8_quietOf_365 rfl ?_
            refine a_callVi B k_X8_quietOf_107 (c_X8_next hV (vp_in_nI (n := (qB (mu 4) (mu 5) (mu 0 5) (mu 0 6) (mu 0 7) (oM mu g) to ((to + 1 - fr) - 1 - j) (qP (mu 4) (mu 5) (mu 0 5) (mu 0 6) (mu 0 7) (oM mu g) to (to + 1 - fr) (lvN mu g fr) j))) hB (by decide))) (by first | rfl | assumption) rfl rfl rfl (Nat.le_of_ble_eq_true rfl) dX8_quietOf_367 (fun r367 mu367 h367 => ?_)
            obtain ⟨rfl, rfl⟩ := h367
            rw [pM_at hq.1 4 rfl, (qN_ok (mu 4) _ _).2]
            refine a_istore B dX8_quietOf_370 (by decide) ?_
            refine a_iinc (v := 1) B dX8_quietOf_372 rfl (by decide) (by decide) ?_
            refine a_goto (tgt := 251) B dX8_quietOf_375 (by decide) ?_
            refine a_fg 10 ?_
            rw [nI_1]
            exact ih (j + 1) (by omega) _ (fun j2 e2 => by rw [show j2 = j by omega])
          have dl : ∀ n, n ≤ 7 → ∀ x10, x10 = nI n + -1 → AW X V ShM 12 267 [some (.ref (aL V 0)), some (.int (nI g)), some (.int (nI fr)), some (.int (nI to)), some (.int (nI ii)), some (.int (oM mu g)), some (.int (nI (qP (mu 4) (mu 5) (mu 0 5) (mu 0 6) (mu 0 7) (oM mu g) to (to + 1 - fr) (lvN mu g fr) j))), some (.int (cM mu g to (to + 1 - fr) (lvN mu g fr))), some (.int (lsF (okM mu g to ((to + 1 - fr) - 1 - j) (qP (mu 4) (mu 5) (mu 0 5) (mu 0 6) (mu 0 7) (oM mu g) to (to + 1 - fr) (lvN mu g fr) j)) n (7 - n))), some (.int (nI (fr + j))), some (.int x10), none] [] mu1 := by
            intro n
            induction n with
            | zero =>
              intro hn x10 e10
              refine a_iload B dX8_quietOf_267 rfl ?_
              refine a_if_lt_t (tgt := 362) B dX8_quietOf_269 (by decide) (by rw [e10]; decide) ?_
              rw [okM_first hc]
              exact k362 _
            | succ n ihn =>
              intro hn x10 e10
              have e10b : x10 = nI n := by rw [e10]; exact pk_m1 n
              have t340 : ∀ b : Bool, b = (okM mu g to ((to + 1 - fr) - 1 - j) (qP (mu 4) (mu 5) (mu 0 5) (mu 0 6) (mu 0 7) (oM mu g) to (to + 1 - fr) (lvN mu g fr) j)) n → AW X V ShM 12 340 [some (.ref (aL V 0)), some (.int (nI g)), some (.int (nI fr)), some (.int (nI to)), some (.int (nI ii)), some (.int (oM mu g)), some (.int (nI (qP (mu 4) (mu 5) (mu 0 5) (mu 0 6) (mu 0 7) (oM mu g) to (to + 1 - fr) (lvN mu g fr) j))), some (.int (cM mu g to (to + 1 - fr) (lvN mu g fr))), some (.int (lsF (okM mu g to ((to + 1 - fr) - 1 - j) (qP (mu 4) (mu 5) (mu 0 5) (mu 0 6) (mu 0 7) (oM mu g) to (to + 1 - fr) (lvN mu g fr) j)) (n + 1) (7 - (n + 1)))), some (.int (nI (fr + j))), some (.int (nI n)), none] [.int (bI b)] mu1 := by
                intro b hb
                refine a_istore B dX8_quietOf_340 (by decide) ?_
                refine a_iload B dX8_quietOf_342 rfl ?_
                refine a_if_eq (tgt := 352) B dX8_quietOf_344 (by decide) (fun c344 => ?_) (fun c344 => ?_)
                · refine a_iload B dX8_quietOf_352 rfl ?_
                  refine a_istore B dX8_quietOf_354 (by decide) ?_
                  refine a_iinc (v := -1) B dX8_quietOf_356 rfl (by decide) (by decide) ?_
                  refine a_goto (tgt := 267) B dX8_quietOf_359 (by decide) ?_
                  refine a_fg 11 ?_
                  have e := ihn (by omega) _ rfl
                  rw [lsF_step (by omega), ← hb] at e
                  first
                    | (rw [if_neg (by rw [bI_0.mp c344]; decide)] at e; exact e)
                    | (rw [if_pos (bI_n0.mp c344)] at e; exact e)
                · refine a_iload B dX8_quietOf_347 rfl ?_
                  refine a_goto (tgt := 354) B dX8_quietOf_349 (by decide) ?_
                  refine a_istore B dX8_quietOf_354 (by decide) ?_
                  refine a_iinc (v := -1) B dX8_quietOf_356 rfl (by decide) (by decide) ?_
                  refine a_goto (tgt := 267) B dX8_quietOf_359 (by decide) ?_
                  refine a_fg 11 ?_
                  have e := ihn (by omega) _ rfl
                  rw [lsF_step (by omega), ← hb] at e
                  first
                    | (rw [if_neg (by rw [bI_0.mp c344]; decide)] at e; exact e)
                    | (rw [if_pos (bI_n0.mp c344)] at e; exact e)
              refine a_iload B dX8_quietOf_267 rfl ?_
              refine a_if_lt_f (tgt := 362) B dX8_quietOf_269 (by decide) (by rw [e10b]; exact nI_pos (by omega)) ?_
              refine a_aload_n B dX8_quietOf_272 rfl ?_
              refine a_iload B dX8_quietOf_273 rfl ?_
              refine a_iload B dX8_quietOf_275 rfl ?_
              refine a_iload B dX8_quietOf_277 rfl ?_
              refine a_iload B dX8_quietOf_279 rfl ?_
              rw [e10b]
              refine a_callSi B k_X8_quietOf_138 (c_X8_isIn hV) rfl rfl (Nat.le_of_ble_eq_true rfl) dX8_quietOf_281 (fun r281 mu281 h281 => ?_)
              obtain ⟨rfl, rfl⟩ := h281
              refine a_callVi B k_X8_quietOf_173 (c_X8_mayServe hV (by omega)) (by first | rfl | assumption) rfl rfl rfl (Nat.le_of_ble_eq_true rfl) dX8_quietOf_284 (fun r284 mu284 h284 => ?_)
              obtain ⟨rfl, rfl⟩ := h284
              rw [pM_at hq.1 4 rfl, pM_at hq.1 0 rfl, show qMS (mu 4) (mu 0 5) (mu 0 6) (mu 0 7) (qP (mu 4) (mu 5) (mu 0 5) (mu 0 6) (mu 0 7) (oM mu g) to (to + 1 - fr) (lvN mu g fr) j) n (bitB (oM mu g) (nI (fr + j))) = msM mu g to ((to + 1 - fr) - 1 - j) (qP (mu 4) (mu 5) (mu 0 5) (mu 0 6) (mu 0 7) (oM mu g) to (to + 1 - fr) (lvN mu g fr) j) n by rw [msM, show to - ((to + 1 - fr) - 1 - j) = fr + j by omega]]
              refine a_if_eq (tgt := 339) B dX8_quietOf_287 (by decide) (fun c287 => ?_) (fun c287 => ?_)
              · refine a_iconst (v := 0) B dX8_quietOf_339 (by decide) ?_
                first
                  | exact t340 false (by rw [okM, bI_0.mp c287, Bool.false_and])
                  | exact t340 false (by rw [okM, decide_eq_false c332, Bool.and_false])
                  | exact t340 true (by rw [okM, bI_n0.mp c287, decide_eq_true c332]; rfl)
              · refine a_aload_n B dX8_quietOf_290 rfl ?_
                refine a_getr B fl_X8_quietOf_22 (by first | rfl | assumption) rfl dX8_quietOf_291 ?_
                refine a_iload B dX8_quietOf_294 rfl ?_
                refine a_ialdN B (n) (by first | rfl | assumption) rfl (by omega) (by decide) dX8_quietOf_296 ?_
                refine a_aload_n B dX8_quietOf_297 rfl ?_
                refine a_getr B fl_X8_quietOf_34 (by first | rfl | assumption) rfl dX8_quietOf_298 ?_
                refine a_bipush (v := 10) B dX8_quietOf_301 (by decide) ?_
                refine a_iload B dX8_quietOf_303 rfl ?_
                refine a_iconst (v := 1) B dX8_quietOf_305 (by decide) ?_
                refine a_iadd B dX8_quietOf_306 ?_
                refine a_imul B dX8_quietOf_307 ?_
                refine a_aload_n B dX8_quietOf_308 rfl ?_
                refine a_iload B dX8_quietOf_309 rfl ?_
                refine a_iload B dX8_quietOf_311 rfl ?_
                refine a_callVi B k_X8_quietOf_107 (c_X8_next hV (vp_in_nI (n := n) (by omega) (by decide))) (by first | rfl | assumption) rfl rfl rfl (Nat.le_of_ble_eq_true rfl) dX8_quietOf_313 (fun r313 mu313 h313 => ?_)
                obtain ⟨rfl, rfl⟩ := h313
                rw [pM_at hq.1 4 rfl, (qN_ok (mu 4) _ _).2]
                refine a_iadd B dX8_quietOf_316 ?_
                refine a_ialdN B (10 * (fr + j + 1) + qN (mu 4) (qP (mu 4) (mu 5) (mu 0 5) (mu 0 6) (mu 0 7) (oM mu g) to (to + 1 - fr) (lvN mu g fr) j) n) (by first | rfl | assumption) (ix10s (fr + j) _) (by have := (qN_ok (mu 4) (qP (mu 4) (mu 5) (mu 0 5) (mu 0 6) (mu 0 7) (oM mu g) to (to + 1 - fr) (lvN mu g fr) j) n).1; omega) (by decide) dX8_quietOf_317 ?_
                refine a_iadd B dX8_quietOf_318 ?_
                refine a_aload_n B dX8_quietOf_319 rfl ?_
                refine a_getr B fl_X8_quietOf_34 (by first | rfl | assumption) rfl dX8_quietOf_320 ?_
                refine a_bipush (v := 10) B dX8_quietOf_323 (by decide) ?_
                refine a_iload B dX8_quietOf_325 rfl ?_
                refine a_imul B dX8_quietOf_327 ?_
                refine a_iload B dX8_quietOf_328 rfl ?_
                refine a_iadd B dX8_quietOf_330 ?_
                refine a_ialdN B (10 * (fr + j) + (qP (mu 4) (mu 5) (mu 0 5) (mu 0 6) (mu 0 7) (oM mu g) to (to + 1 - fr) (lvN mu g fr) j)) (by first | rfl | assumption) (ix10 (fr + j) _) (by omega) (by decide) dX8_quietOf_331 ?_
                rw [show mu1 5 n + mu1 9 (10 * (fr + j + 1) + qN (mu 4) (qP (mu 4) (mu 5) (mu 0 5) (mu 0 6) (mu 0 7) (oM mu g) to (to + 1 - fr) (lvN mu g fr) j) n) = byM mu g to ((to + 1 - fr) - 1 - j) (qP (mu 4) (mu 5) (mu 0 5) (mu 0 6) (mu 0 7) (oM mu g) to (to + 1 - fr) (lvN mu g fr) j) n by rw [pM_at hq.1 5 rfl, hq.2.2 (fr + j + 1) (by omega) (by omega) _ (by have := (qN_ok (mu 4) (qP (mu 4) (mu 5) (mu 0 5) (mu 0 6) (mu 0 7) (oM mu g) to (to + 1 - fr) (lvN mu g fr) j) n).1; omega), byM, show to + 1 - (fr + j + 1) = (to + 1 - fr) - 1 - j by omega], show mu1 9 (10 * (fr + j) + (qP (mu 4) (mu 5) (mu 0 5) (mu 0 6) (mu 0 7) (oM mu g) to (to + 1 - fr) (lvN mu g fr) j)) = cM mu g to ((to + 1 - fr) - 1 - j + 1) (qP (mu 4) (mu 5) (mu 0 5) (mu 0 6) (mu 0 7) (oM mu g) to (to + 1 - fr) (lvN mu g fr) j) by rw [hq.2.2 (fr + j) (by omega) (by omega) _ (by omega), show to + 1 - (fr + j) = (to + 1 - fr) - 1 - j + 1 by omega]]
                refine a_icmp_ne (tgt := 339) B dX8_quietOf_332 (by decide) (fun c332 => ?_) (fun c332 => ?_)
                · refine a_iconst (v := 0) B dX8_quietOf_339 (by decide) ?_
                  first
                    | exact t340 false (by rw [okM, bI_0.mp c287, Bool.false_and])
                    | exact t340 false (by rw [okM, decide_eq_false c332, Bool.and_false])
                    | exact t340 true (by rw [okM, bI_n0.mp c287, decide_eq_true c332]; rfl)
                · refine a_iconst (v := 1) B dX8_quietOf_335 (by decide) ?_
                  refine a_goto (tgt := 340) B dX8_quietOf_336 (by decide) ?_
                  first
                    | exact t340 false (by rw [okM, bI_0.mp c287, Bool.false_and])
                    | exact t340 false (by rw [okM, decide_eq_false c332, Bool.and_false])
                    | exact t340 true (by rw [okM, bI_n0.mp c287, decide_eq_true c332]; rfl)
          refine a_iload B dX8_quietOf_251 rfl ?_
          refine a_iload_n B dX8_quietOf_253 rfl ?_
          refine a_iload B dX8_quietOf_254 rfl ?_
          refine a_iadd B dX8_quietOf_256 ?_
          refine a_icmp_gt_f (tgt := 378) B dX8_quietOf_257 (by decide) (by rw [nI_add]; exact nI_nlt (by omega) (by omega)) ?_
          refine a_iconst (v := -1) B dX8_quietOf_260 (by decide) ?_
          refine a_istore B dX8_quietOf_261 (by decide) ?_
          refine a_bipush (v := 6) B dX8_quietOf_263 (by decide) ?_
          refine a_istore B dX8_quietOf_265 (by decide) ?_
          exact dl 7 (Nat.le_refl _) _ (by decide)
      refine a_iconst (v := -1) B dX8_quietOf_245 (by decide) ?_
      refine a_istore B dX8_quietOf_246 (by decide) ?_
      refine a_iload_n B dX8_quietOf_248 rfl ?_
      refine a_istore B dX8_quietOf_249 (by decide) ?_
      exact l251 (ii + 1) 0 (by omega) _ (fun j2 e2 => by omega)
    have k202 : ∀ mu1, QI mu muL g to fr mu1 → AW X V ShM 12 202 [some (.ref (aL V 0)), some (.int (nI g)), some (.int (nI fr)), some (.int (nI to)), some (.int i), some (.int (oM mu g)), none, none, none, none, none, none] [.int (nI (lvN mu g fr))] mu1 := by
      intro mu1 hq
      refine a_istore B dX8_quietOf_202 (by decide) ?_
      refine a_aload_n B dX8_quietOf_204 rfl ?_
      refine a_getr B fl_X8_quietOf_34 (by first | rfl | assumption) rfl dX8_quietOf_205 ?_
      refine a_bipush (v := 10) B dX8_quietOf_208 (by decide) ?_
      refine a_iload_n B dX8_quietOf_210 rfl ?_
      refine a_imul B dX8_quietOf_211 ?_
      refine a_iload B dX8_quietOf_212 rfl ?_
      refine a_iadd B dX8_quietOf_214 ?_
      refine a_ialdN B (10 * fr + lvN mu g fr) (by first | rfl | assumption) (ix10 fr _) (by omega) (by decide) dX8_quietOf_215 ?_
      rw [hq.2.2 fr (Nat.le_refl _) (by omega) _ (by omega)]
      refine a_istore B dX8_quietOf_216 (by decide) ?_
      refine a_iload B dX8_quietOf_218 rfl ?_
      refine a_iconst (v := -1) B dX8_quietOf_220 (by decide) ?_
      refine a_icmp_eq (tgt := 231) B dX8_quietOf_221 (by decide) (fun c221 => ?_) (fun c221 => ?_)
      · refine a_iload B dX8_quietOf_231 rfl ?_
        refine a_ldc (v := 1000000) B (by decide +kernel) dX8_quietOf_233 ?_
        refine a_icmp_lt (tgt := 242) B dX8_quietOf_235 (by decide) (fun c235 => ?_) (fun c235 => ?_)
        · refine a_iload B dX8_quietOf_242 rfl ?_
          refine a_ireturn B E dX8_quietOf_244 ?_
          refine ⟨?_, hq.1⟩
          show _ = qR _ _ _ _ _ _ _ _ _ _
          rw [qR]
          first
            | rw [if_pos (show (1000000 : Int32) ≤ qC _ _ _ _ _ _ _ _ _ from Int32.not_lt.mp c235)]
            | (rw [if_neg (show ¬ (1000000 : Int32) ≤ qC _ _ _ _ _ _ _ _ _ from Int32.not_le.mpr c235), if_pos c221]; rfl)
            | exact absurd c235 c228
        · refine a_iconst (v := -1) B dX8_quietOf_238 (by decide) ?_
          refine a_goto (tgt := 244) B dX8_quietOf_239 (by decide) ?_
          refine a_ireturn B E dX8_quietOf_244 ?_
          refine ⟨?_, hq.1⟩
          show _ = qR _ _ _ _ _ _ _ _ _ _
          rw [qR]
          first
            | rw [if_pos (show (1000000 : Int32) ≤ qC _ _ _ _ _ _ _ _ _ from Int32.not_lt.mp c235)]
            | (rw [if_neg (show ¬ (1000000 : Int32) ≤ qC _ _ _ _ _ _ _ _ _ from Int32.not_le.mpr c235), if_pos c221]; rfl)
            | exact absurd c235 c228
      · refine a_iload B dX8_quietOf_224 rfl ?_
        refine a_ldc (v := 1000000) B (by decide +kernel) dX8_quietOf_226 ?_
        refine a_icmp_lt (tgt := 245) B dX8_quietOf_228 (by decide) (fun c228 => ?_) (fun c228 => ?_)
        · have hlt : (cM mu g to (to + 1 - fr) (lvN mu g fr)).toInt < 1000000 := by
            have z := c228
            rw [fa_lt] at z
            exact z
          have hi2 : ∃ ii, ii < (to + 1 - fr) ∧ i = nI ii := by
            rcases hii with h | h
            · exact absurd h c221
            · exact h
          obtain ⟨ii, hi3, ei⟩ := hi2
          exact k245 mu1 hq ii hi3 ei c221 hlt
        · refine a_iload B dX8_quietOf_231 rfl ?_
          refine a_ldc (v := 1000000) B (by decide +kernel) dX8_quietOf_233 ?_
          refine a_icmp_lt (tgt := 242) B dX8_quietOf_235 (by decide) (fun c235 => ?_) (fun c235 => ?_)
          · refine a_iload B dX8_quietOf_242 rfl ?_
            refine a_ireturn B E dX8_quietOf_244 ?_
            refine ⟨?_, hq.1⟩
            show _ = qR _ _ _ _ _ _ _ _ _ _
            rw [qR]
            first
              | rw [if_pos (show (1000000 : Int32) ≤ qC _ _ _ _ _ _ _ _ _ from Int32.not_lt.mp c235)]
              | (rw [if_neg (show ¬ (1000000 : Int32) ≤ qC _ _ _ _ _ _ _ _ _ from Int32.not_le.mpr c235), if_pos c221]; rfl)
              | exact absurd c235 c228
          · refine a_iconst (v := -1) B dX8_quietOf_238 (by decide) ?_
            refine a_goto (tgt := 244) B dX8_quietOf_239 (by decide) ?_
            refine a_ireturn B E dX8_quietOf_244 ?_
            refine ⟨?_, hq.1⟩
            show _ = qR _ _ _ _ _ _ _ _ _ _
            rw [qR]
            first
              | rw [if_pos (show (1000000 : Int32) ≤ qC _ _ _ _ _ _ _ _ _ from Int32.not_lt.mp c235)]
              | (rw [if_neg (show ¬ (1000000 : Int32) ≤ qC _ _ _ _ _ _ _ _ _ from Int32.not_le.mpr c235), if_pos c221]; rfl)
              | exact absurd c235 c228
    have k176 : ∀ mu1, QI mu muL g to fr mu1 → AW X V ShM 12 176 [some (.ref (aL V 0)), some (.int (nI g)), some (.int (nI fr)), some (.int (nI to)), some (.int i), some (.int (oM mu g)), none, none, none, none, none, none] [] mu1 := by
      intro mu1 hq
      refine a_iload_n B dX8_quietOf_176 rfl ?_
      refine a_if_ne (tgt := 189) B dX8_quietOf_177 (by decide) (fun c177 => ?_) (fun c177 => ?_)
      · refine a_aload_n B dX8_quietOf_189 rfl ?_
        refine a_getr B fl_X8_quietOf_28 (by first | rfl | assumption) rfl dX8_quietOf_190 ?_
        refine a_bipush (v := 24) B dX8_quietOf_193 (by decide) ?_
        refine a_iload_n B dX8_quietOf_195 rfl ?_
        refine a_imul B dX8_quietOf_196 ?_
        refine a_iload_n B dX8_quietOf_197 rfl ?_
        refine a_iadd B dX8_quietOf_198 ?_
        refine a_iconst (v := 1) B dX8_quietOf_199 (by decide) ?_
        refine a_isub B dX8_quietOf_200 ?_
        obtain ⟨f2, ef2⟩ : ∃ f2, fr = f2 + 1 := ⟨fr - 1, by have : fr ≠ 0 := (fun e => c177 (by rw [e]; rfl)); omega⟩
        rw [show (24 : Int32) * nI g + nI fr - 1 = nI (24 * g + f2) by rw [ef2, ix24]; exact nI_pred _]
        refine a_ialdN B (24 * g + f2) (by first | rfl | assumption) rfl (by omega) (by decide) dX8_quietOf_201 ?_
        first
          | (have ef : fr = 0 := (nI_eq (a := fr) (b := 0) (by omega) (by decide)).mp c177
             rw [show mu1 3 g = nI (lvN mu g fr) by rw [pM_at hq.1 3 rfl, ef]; exact (lvN_ok hi (by omega) 0).2]
             exact k202 mu1 hq)
          | (rw [show mu1 7 (24 * g + f2) = nI (lvN mu g fr) by rw [hq.2.1, (h1.2 g (by omega)).2.1 f2 (by omega), ef2]; exact (lvN_ok hi (by omega) (f2 + 1)).2]
             exact k202 mu1 hq)
      · refine a_aload_n B dX8_quietOf_180 rfl ?_
        refine a_getr B fl_X8_quietOf_16 (by first | rfl | assumption) rfl dX8_quietOf_181 ?_
        refine a_iload_n B dX8_quietOf_184 rfl ?_
        refine a_ialdN B (g) (by first | rfl | assumption) rfl (by omega) (by decide) dX8_quietOf_185 ?_
        refine a_goto (tgt := 202) B dX8_quietOf_186 (by decide) ?_
        first
          | (have ef : fr = 0 := (nI_eq (a := fr) (b := 0) (by omega) (by decide)).mp c177
             rw [show mu1 3 g = nI (lvN mu g fr) by rw [pM_at hq.1 3 rfl, ef]; exact (lvN_ok hi (by omega) 0).2]
             exact k202 mu1 hq)
          | (rw [show mu1 7 (24 * g + f2) = nI (lvN mu g fr) by rw [hq.2.1, (h1.2 g (by omega)).2.1 f2 (by omega), ef2]; exact (lvN_ok hi (by omega) (f2 + 1)).2]
             exact k202 mu1 hq)
    have loop48 : ∀ m, fr + m ≤ to + 1 → ∀ mu1, QI mu muL g to (fr + m) mu1 → ∀ h6, h6 = nI (fr + m) + -1 → AW X V ShM 12 48 [some (.ref (aL V 0)), some (.int (nI g)), some (.int (nI fr)), some (.int (nI to)), some (.int i), some (.int (oM mu g)), some (.int h6), none, none, none, none, none] [] mu1 := by
      intro m
      induction m with
      | zero =>
        intro hm mu1 hq h6 eh
        refine a_iload B dX8_quietOf_48 rfl ?_
        refine a_iload_n B dX8_quietOf_50 rfl ?_
        refine a_icmp_lt_t (tgt := 176) B dX8_quietOf_51 (by decide) (by rw [eh]; exact pre_lt fr (by omega)) ?_
        refine a_fg 6 ?_
        exact k176 mu1 hq
      | succ m ihh =>
        intro hm mu1 hq h6 eh
        have eh2 : h6 = nI (fr + m) := by rw [eh]; exact pk_m1 (fr + m)
        have lv10 : ∀ (mv v : Nat), v + mv = 10 → ∀ mu1, (pM mu1 = pM mu ∧ mu1 7 = muL 7 ∧ (∀ h, fr + m + 1 ≤ h → h ≤ to + 1 → ∀ v, v < 10 → mu1 9 (10 * h + v) = cM mu g to (to + 1 - h) v) ∧ ∀ v2, v2 < v → mu1 9 (10 * (fr + m) + v2) = cM mu g to (to + 1 - (fr + m)) v2) → AW X V ShM 12 57 [some (.ref (aL V 0)), some (.int (nI g)), some (.int (nI fr)), some (.int (nI to)), some (.int i), some (.int (oM mu g)), some (.int (nI (fr + m))), some (.int (nI v)), none, none, none, none] [] mu1 := by
          intro mv
          induction mv with
          | zero =>
            intro v hv mu1 hq
            have ev : v = 10 := by omega
            subst ev
            refine a_iload B dX8_quietOf_57 rfl ?_
            refine a_bipush (v := 10) B dX8_quietOf_59 (by decide) ?_
            refine a_icmp_ge_t (tgt := 170) B dX8_quietOf_61 (by decide) (by decide) ?_
            refine a_iinc (v := -1) B dX8_quietOf_170 rfl (by decide) (by decide) ?_
            refine a_goto (tgt := 48) B dX8_quietOf_173 (by decide) ?_
            refine a_fg 7 ?_
            exact ihh (by omega) mu1 ⟨hq.1, hq.2.1, fun h hb ht v hv => by
              by_cases e : h = fr + m
              · rw [e]; exact hq.2.2.2 v (by omega)
              · exact hq.2.2.1 h (by omega) ht v hv⟩ _ rfl
          | succ mv ihv =>
            intro v hv mu1 hq
            have k149 : AW X V ShM 12 149 [some (.ref (aL V 0)), some (.int (nI g)), some (.int (nI fr)), some (.int (nI to)), some (.int i), some (.int (oM mu g)), some (.int (nI (fr + m))), some (.int (nI v)), some (.int (bsF (msM mu g to (to - (fr + m)) v) (byM mu g to (to - (fr + m)) v) 7)), some (.int (nI 7)), none, none] [] mu1 := by
              refine a_aload_n B dX8_quietOf_149 rfl ?_
              refine a_getr B fl_X8_quietOf_34 (by first | rfl | assumption) rfl dX8_quietOf_150 ?_
              refine a_bipush (v := 10) B dX8_quietOf_153 (by decide) ?_
              refine a_iload B dX8_quietOf_155 rfl ?_
              refine a_imul B dX8_quietOf_157 ?_
              refine a_iload B dX8_quietOf_158 rfl ?_
              refine a_iadd B dX8_quietOf_160 ?_
              refine a_iload B dX8_quietOf_161 rfl ?_
              refine a_iastN B (10 * (fr + m) + v) (by first | rfl | assumption) (ix10 (fr + m) v) (by omega) (by decide)  dX8_quietOf_163 ?_
              refine a_iinc (v := 1) B dX8_quietOf_164 rfl (by decide) (by decide) ?_
              refine a_goto (tgt := 57) B dX8_quietOf_167 (by decide) ?_
              refine a_fg 8 ?_
              refine a_fg 9 ?_
              rw [nI_1]
              refine ihv (v + 1) (by omega) _ (QI_up (b := fr + m) hq (by omega) ?_)
              rw [show to + 1 - (fr + m) = (to - (fr + m)) + 1 by omega]
              rfl
            have ld : ∀ (md d : Nat), d + md = 7 → AW X V ShM 12 71 [some (.ref (aL V 0)), some (.int (nI g)), some (.int (nI fr)), some (.int (nI to)), some (.int i), some (.int (oM mu g)), some (.int (nI (fr + m))), some (.int (nI v)), some (.int (bsF (msM mu g to (to - (fr + m)) v) (byM mu g to (to - (fr + m)) v) d)), some (.int (nI d)), none, none] [] mu1 := by
              intro md
              induction md with
              | zero =>
                intro d hd
                have ed : d = 7 := by omega
                subst ed
                refine a_iload B dX8_quietOf_71 rfl ?_
                refine a_bipush (v := 7) B dX8_quietOf_73 (by decide) ?_
                refine a_icmp_ge_t (tgt := 149) B dX8_quietOf_75 (by decide) (by decide) ?_
                exact k149
              | succ md ihd =>
                intro d hd
                have t141 : ∀ x : Int32, x = (if msM mu g to (to - (fr + m)) v d = true ∧ byM mu g to (to - (fr + m)) v d < (bsF (msM mu g to (to - (fr + m)) v) (byM mu g to (to - (fr + m)) v) d) then byM mu g to (to - (fr + m)) v d else (bsF (msM mu g to (to - (fr + m)) v) (byM mu g to (to - (fr + m)) v) d)) → AW X V ShM 12 141 [some (.ref (aL V 0)), some (.int (nI g)), some (.int (nI fr)), some (.int (nI to)), some (.int i), some (.int (oM mu g)), some (.int (nI (fr + m))), some (.int (nI v)), some (.int (bsF (msM mu g to (to - (fr + m)) v) (byM mu g to (to - (fr + m)) v) d)), some (.int (nI d)), some (.int (byM mu g to (to - (fr + m)) v d)), none] [.int x] mu1 := by
                  intro x hx
                  refine a_istore B dX8_quietOf_141 (by decide) ?_
                  refine a_iinc (v := 1) B dX8_quietOf_143 rfl (by decide) (by decide) ?_
                  refine a_goto (tgt := 71) B dX8_quietOf_146 (by decide) ?_
                  refine a_fg 10 ?_
                  rw [nI_1]
                  have e := ihd (d + 1) (by omega)
                  rw [bsF, ← hx] at e
                  exact e
                refine a_iload B dX8_quietOf_71 rfl ?_
                refine a_bipush (v := 7) B dX8_quietOf_73 (by decide) ?_
                refine a_icmp_ge_f (tgt := 149) B dX8_quietOf_75 (by decide) (nI_ge (a := d) (b := 7) (by omega) (by decide)) ?_
                refine a_aload_n B dX8_quietOf_78 rfl ?_
                refine a_getr B fl_X8_quietOf_22 (by first | rfl | assumption) rfl dX8_quietOf_79 ?_
                refine a_iload B dX8_quietOf_82 rfl ?_
                refine a_ialdN B (d) (by first | rfl | assumption) rfl (by omega) (by decide) dX8_quietOf_84 ?_
                refine a_aload_n B dX8_quietOf_85 rfl ?_
                refine a_getr B fl_X8_quietOf_34 (by first | rfl | assumption) rfl dX8_quietOf_86 ?_
                refine a_bipush (v := 10) B dX8_quietOf_89 (by decide) ?_
                refine a_iload B dX8_quietOf_91 rfl ?_
                refine a_iconst (v := 1) B dX8_quietOf_93 (by decide) ?_
                refine a_iadd B dX8_quietOf_94 ?_
                refine a_imul B dX8_quietOf_95 ?_
                refine a_aload_n B dX8_quietOf_96 rfl ?_
                refine a_iload B dX8_quietOf_97 rfl ?_
                refine a_iload B dX8_quietOf_99 rfl ?_
                refine a_callVi B k_X8_quietOf_107 (c_X8_next hV (vp_in_nI (n := d) (by omega) (by decide))) (by first | rfl | assumption) rfl rfl rfl (Nat.le_of_ble_eq_true rfl) dX8_quietOf_101 (fun r101 mu101 h101 => ?_)
                obtain ⟨rfl, rfl⟩ := h101
                rw [pM_at hq.1 4 rfl, (qN_ok (mu 4) v d).2]
                refine a_iadd B dX8_quietOf_104 ?_
                refine a_ialdN B (10 * (fr + m + 1) + qN (mu 4) v d) (by first | rfl | assumption) (ix10s (fr + m) (qN (mu 4) v d)) (by have := (qN_ok (mu 4) v d).1; omega) (by decide) dX8_quietOf_105 ?_
                refine a_iadd B dX8_quietOf_106 ?_
                rw [show mu1 5 d + mu1 9 (10 * (fr + m + 1) + qN (mu 4) v d) = byM mu g to (to - (fr + m)) v d by rw [pM_at hq.1 5 rfl, hq.2.2.1 (fr + m + 1) (by omega) (by omega) _ (by have := (qN_ok (mu 4) v d).1; omega), byM, show to + 1 - (fr + m + 1) = to - (fr + m) by omega]]
                refine a_istore B dX8_quietOf_107 (by decide) ?_
                refine a_aload_n B dX8_quietOf_109 rfl ?_
                refine a_iload B dX8_quietOf_110 rfl ?_
                refine a_iload B dX8_quietOf_112 rfl ?_
                refine a_iload B dX8_quietOf_114 rfl ?_
                refine a_iload B dX8_quietOf_116 rfl ?_
                refine a_callSi B k_X8_quietOf_138 (c_X8_isIn hV) rfl rfl (Nat.le_of_ble_eq_true rfl) dX8_quietOf_118 (fun r118 mu118 h118 => ?_)
                obtain ⟨rfl, rfl⟩ := h118
                refine a_callVi B k_X8_quietOf_173 (c_X8_mayServe hV (by omega)) (by first | rfl | assumption) rfl rfl rfl (Nat.le_of_ble_eq_true rfl) dX8_quietOf_121 (fun r121 mu121 h121 => ?_)
                obtain ⟨rfl, rfl⟩ := h121
                rw [pM_at hq.1 4 rfl, pM_at hq.1 0 rfl, show qMS (mu 4) (mu 0 5) (mu 0 6) (mu 0 7) v d (bitB (oM mu g) (nI (fr + m))) = msM mu g to (to - (fr + m)) v d by rw [msM, show to - (to - (fr + m)) = fr + m by omega]]
                refine a_if_eq (tgt := 139) B dX8_quietOf_124 (by decide) (fun c124 => ?_) (fun c124 => ?_)
                · refine a_iload B dX8_quietOf_139 rfl ?_
                  first
                    | exact t141 _ (by rw [if_neg (fun z => absurd z.1 (by rw [bI_0.mp c124]; decide))])
                    | exact t141 _ (by rw [if_neg (fun z => absurd z.2 (Int32.not_lt.mpr c131))])
                    | exact t141 _ (by rw [if_pos ⟨bI_n0.mp c124, Int32.not_le.mp c131⟩])
                · refine a_iload B dX8_quietOf_127 rfl ?_
                  refine a_iload B dX8_quietOf_129 rfl ?_
                  refine a_icmp_ge (tgt := 139) B dX8_quietOf_131 (by decide) (fun c131 => ?_) (fun c131 => ?_)
                  · refine a_iload B dX8_quietOf_139 rfl ?_
                    first
                      | exact t141 _ (by rw [if_neg (fun z => absurd z.1 (by rw [bI_0.mp c124]; decide))])
                      | exact t141 _ (by rw [if_neg (fun z => absurd z.2 (Int32.not_lt.mpr c131))])
                      | exact t141 _ (by rw [if_pos ⟨bI_n0.mp c124, Int32.not_le.mp c131⟩])
                  · refine a_iload B dX8_quietOf_134 rfl ?_
                    refine a_goto (tgt := 141) B dX8_quietOf_136 (by decide) ?_
                    first
                      | exact t141 _ (by rw [if_neg (fun z => absurd z.1 (by rw [bI_0.mp c124]; decide))])
                      | exact t141 _ (by rw [if_neg (fun z => absurd z.2 (Int32.not_lt.mpr c131))])
                      | exact t141 _ (by rw [if_pos ⟨bI_n0.mp c124, Int32.not_le.mp c131⟩])
            refine a_iload B dX8_quietOf_57 rfl ?_
            refine a_bipush (v := 10) B dX8_quietOf_59 (by decide) ?_
            refine a_icmp_ge_f (tgt := 170) B dX8_quietOf_61 (by decide) (nI_ge (a := v) (b := 10) (by omega) (by decide)) ?_
            refine a_ldc (v := 1000000) B (by decide +kernel) dX8_quietOf_64 ?_
            refine a_istore B dX8_quietOf_66 (by decide) ?_
            refine a_iconst (v := 0) B dX8_quietOf_68 (by decide) ?_
            refine a_istore B dX8_quietOf_69 (by decide) ?_
            exact ld 7 0 rfl
        refine a_iload B dX8_quietOf_48 rfl ?_
        refine a_iload_n B dX8_quietOf_50 rfl ?_
        refine a_icmp_lt_f (tgt := 176) B dX8_quietOf_51 (by decide) (by rw [eh2]; exact nI_nlt (a := fr + m) (b := fr) (by omega) (by omega)) ?_
        refine a_iconst (v := 0) B dX8_quietOf_54 (by decide) ?_
        refine a_istore B dX8_quietOf_55 (by decide) ?_
        rw [eh2]
        exact lv10 10 0 rfl mu1 ⟨hq.1, hq.2.1, fun h hb ht v hv => hq.2.2 h (by omega) ht v hv, fun v hv => by omega⟩
    have l17 : ∀ (m j : Nat), j + m = 10 → ∀ mu1, (pM mu1 = pM mu ∧ mu1 7 = muL 7 ∧ (∀ h, to + 1 + 1 ≤ h → h ≤ to + 1 → ∀ v, v < 10 → mu1 9 (10 * h + v) = cM mu g to (to + 1 - h) v) ∧ ∀ v, v < j → mu1 9 (10 * (to + 1) + v) = cM mu g to (to + 1 - (to + 1)) v) → AW X V ShM 12 17 [some (.ref (aL V 0)), some (.int (nI g)), some (.int (nI fr)), some (.int (nI to)), some (.int i), some (.int (oM mu g)), some (.int (nI j)), none, none, none, none, none] [] mu1 := by
      intro m
      induction m with
      | zero =>
        intro j hj mu1 hq
        have ej : j = 10 := by omega
        subst ej
        refine a_iload B dX8_quietOf_17 rfl ?_
        refine a_bipush (v := 10) B dX8_quietOf_19 (by decide) ?_
        refine a_icmp_ge_t (tgt := 45) B dX8_quietOf_21 (by decide) (by decide) ?_
        refine a_iload_n B dX8_quietOf_45 rfl ?_
        refine a_istore B dX8_quietOf_46 (by decide) ?_
        exact loop48 (to + 1 - fr) (by omega) mu1 ⟨hq.1, hq.2.1, fun h hb ht v hv => by rw [show h = to + 1 by omega]; exact hq.2.2.2 v (by omega)⟩ _ (by rw [show fr + (to + 1 - fr) = to + 1 by omega]; exact (pk_m1 to).symm)
      | succ m ih =>
        intro j hj mu1 hq
        refine a_iload B dX8_quietOf_17 rfl ?_
        refine a_bipush (v := 10) B dX8_quietOf_19 (by decide) ?_
        refine a_icmp_ge_f (tgt := 45) B dX8_quietOf_21 (by decide) (nI_ge (a := j) (b := 10) (by omega) (by decide)) ?_
        refine a_aload_n B dX8_quietOf_24 rfl ?_
        refine a_getr B fl_X8_quietOf_34 (by first | rfl | assumption) rfl dX8_quietOf_25 ?_
        refine a_bipush (v := 10) B dX8_quietOf_28 (by decide) ?_
        refine a_iload_n B dX8_quietOf_30 rfl ?_
        refine a_iconst (v := 1) B dX8_quietOf_31 (by decide) ?_
        refine a_iadd B dX8_quietOf_32 ?_
        refine a_imul B dX8_quietOf_33 ?_
        refine a_iload B dX8_quietOf_34 rfl ?_
        refine a_iadd B dX8_quietOf_36 ?_
        refine a_iconst (v := 0) B dX8_quietOf_37 (by decide) ?_
        refine a_iastN B (10 * (to + 1) + j) (by first | rfl | assumption) (ix10s to j) (by omega) (by decide)  dX8_quietOf_38 ?_
        refine a_iinc (v := 1) B dX8_quietOf_39 rfl (by decide) (by decide) ?_
        refine a_goto (tgt := 17) B dX8_quietOf_42 (by decide) ?_
        rw [nI_1]
        exact ih (j + 1) (by omega) _ (QI_up (b := to + 1) hq (by omega) (by rw [Nat.sub_self]; rfl))
    exact l17 10 0 rfl muL ⟨h1.1, rfl, fun h hb ht => by omega, fun v hv => by omega⟩
  refine a_aload_n B dX8_quietOf_0 rfl ?_
  refine a_callVv B k_X8_quietOf_119 (c_X8_laysAll hV hi) (by first | rfl | assumption) rfl rfl rfl (Nat.le_of_ble_eq_true rfl) dX8_quietOf_1 (fun mu1 h1 => ?_)
  refine a_aload_n B dX8_quietOf_4 rfl ?_
  refine a_getr B fl_X8_quietOf_31 (by first | rfl | assumption) rfl dX8_quietOf_5 ?_
  refine a_iconst (v := 1) B dX8_quietOf_8 (by decide) ?_
  refine a_iload_n B dX8_quietOf_9 rfl ?_
  refine a_isub B dX8_quietOf_10 ?_
  refine a_ialdN B (1 - g) (by first | rfl | assumption) (pk_sub (a := 1) (by omega)) (by omega) (by decide) dX8_quietOf_11 ?_
  rw [(h1.2 (1 - g) (by omega)).2.2]
  refine a_istore B dX8_quietOf_12 (by decide) ?_
  refine a_iconst (v := 0) B dX8_quietOf_14 (by decide) ?_
  refine a_istore B dX8_quietOf_15 (by decide) ?_
  exact main mu1 h1
abbrev rm_X8_quiet : Room := { frames := 6, cells := 0, slots := 0, locals := 143 }
theorem k_X8_quiet_71 : KS RX8 wsX8_quiet rm_X8_quiet 71 yX8_in wsX8_in rm_X8_in 3 := ⟨_, _, _, _, gX8_quiet_X8_in, rfl, rfl, rfl, by decide +kernel, by decide⟩
theorem k_X8_quiet_122 : KS RX8 wsX8_quiet rm_X8_quiet 122 yX8_isHour wsX8_isHour rm_X8_isHour 1 := ⟨_, _, _, _, gX8_quiet_X8_isHour, rfl, rfl, rfl, by decide +kernel, by decide⟩
theorem k_X8_quiet_177 : KV RX8 wsX8_quiet rm_X8_quiet 177 RX8 yX8_quietOf wsX8_quietOf rm_X8_quietOf 4 := ⟨_, _, _, _, gX8_quiet_X8_quietOf, rfl, rfl, rfl, by decide +kernel, by decide⟩

theorem qi_in {fr to : Nat} {i : Int32} (hft : fr ≤ to) (hto : to < 24) (hii : i = -1 ∨ ∃ ii, ii < to + 1 - fr ∧ i = nI ii) : inB i (-1) (nI (to - fr)) = true := by
  rw [inB_t]
  rcases hii with rfl | ⟨ii, h, rfl⟩
  · refine ⟨by decide, ?_⟩
    rw [fa_le, nI_toInt (by omega)]
    have : (-1 : Int32).toInt = -1 := by decide
    omega
  · refine ⟨?_, nI_le (by omega) (by omega)⟩
    rw [fa_le, nI_toInt (by omega)]
    have : (-1 : Int32).toInt = -1 := by decide
    omega
set_option maxHeartbeats 4000000 in
set_option maxRecDepth 100000 in
theorem c_X8_quiet {l : Launch} {V : ab_V} {mu : ab_mem} {g fr to : Nat} {i : Int32} (hV : ab_OK V ShM) (hi : IM mu) (hpo : PO (mu 5)) (hg : g < 2) (hft : fr ≤ to) (hto : to < 24) (hii : i = -1 ∨ ∃ ii, ii < to + 1 - fr ∧ i = nI ii) : CT l V ShM yX8_quiet wsX8_quiet rm_X8_quiet [.ref (aL V 0), .int (nI g), .int (nI fr), .int (nI to), .int i] mu (pI (fun r mu2 => r = qR (mu 4) (mu 5) (mu 0 5) (mu 0 6) (mu 0 7) (oM mu g) to (to + 1 - fr) (lvN mu g fr) i ∧ pM mu2 = pM mu)) := by
  refine ab_enter hV (by decide) rfl (Nat.le_of_ble_eq_true rfl) ?_
  intro X B E
  have B : CX X l rm_X8_quiet RX8 cX8_quiet wsX8_quiet 5 V ShM := B
  show AW X V ShM 5 0 [some (.ref (aL V 0)), some (.int (nI g)), some (.int (nI fr)), some (.int (nI to)), some (.int i)] [] mu
  refine a_iload_n B dX8_quiet_0 rfl ?_
  refine a_iconst (v := 0) B dX8_quiet_1 (by decide) ?_
  refine a_iconst (v := 1) B dX8_quiet_2 (by decide) ?_
  refine a_callSi B k_X8_quiet_71 (c_X8_in hV) rfl rfl (Nat.le_of_ble_eq_true rfl) dX8_quiet_3 (fun r3 mu3 h3 => ?_)
  obtain ⟨rfl, rfl⟩ := h3
  refine a_if_eq_f (tgt := 50) B dX8_quiet_6 (by decide) (bI_n0.mpr (inB_nI (n := 1) (by omega) (by decide))) ?_
  refine a_iload_n B dX8_quiet_9 rfl ?_
  refine a_callSi B k_X8_quiet_122 (c_X8_isHour hV) rfl rfl (Nat.le_of_ble_eq_true rfl) dX8_quiet_10 (fun r10 mu10 h10 => ?_)
  obtain ⟨rfl, rfl⟩ := h10
  refine a_if_eq_f (tgt := 50) B dX8_quiet_13 (by decide) (bI_n0.mpr (inB_nI (n := 23) (by omega) (by decide))) ?_
  refine a_iload_n B dX8_quiet_16 rfl ?_
  refine a_iload_n B dX8_quiet_17 rfl ?_
  refine a_bipush (v := 23) B dX8_quiet_18 (by decide) ?_
  refine a_callSi B k_X8_quiet_71 (c_X8_in hV) rfl rfl (Nat.le_of_ble_eq_true rfl) dX8_quiet_20 (fun r20 mu20 h20 => ?_)
  obtain ⟨rfl, rfl⟩ := h20
  refine a_if_eq_f (tgt := 50) B dX8_quiet_23 (by decide) (bI_n0.mpr (inB_t.mpr ⟨nI_le hft (by omega), nI_le (b := 23) (by omega) (by decide)⟩)) ?_
  refine a_iload B dX8_quiet_26 rfl ?_
  refine a_iconst (v := -1) B dX8_quiet_28 (by decide) ?_
  refine a_iload_n B dX8_quiet_29 rfl ?_
  refine a_iload_n B dX8_quiet_30 rfl ?_
  refine a_isub B dX8_quiet_31 ?_
  refine a_callSi B k_X8_quiet_71 (c_X8_in hV) rfl rfl (Nat.le_of_ble_eq_true rfl) dX8_quiet_32 (fun r32 mu32 h32 => ?_)
  obtain ⟨rfl, rfl⟩ := h32
  refine a_if_eq_f (tgt := 50) B dX8_quiet_35 (by decide) (bI_n0.mpr (by rw [pk_sub hft]; exact qi_in hft hto hii)) ?_
  refine a_aload_n B dX8_quiet_38 rfl ?_
  refine a_iload_n B dX8_quiet_39 rfl ?_
  refine a_iload_n B dX8_quiet_40 rfl ?_
  refine a_iload_n B dX8_quiet_41 rfl ?_
  refine a_iload B dX8_quiet_42 rfl ?_
  refine a_callVi B k_X8_quiet_177 (c_X8_quietOf hV hi hpo hg hft hto hii) (by first | rfl | assumption) rfl rfl rfl (Nat.le_of_ble_eq_true rfl) dX8_quiet_44 (fun r44 mu44 h44 => ?_)
  refine a_goto (tgt := 52) B dX8_quiet_47 (by decide) ?_
  refine a_ireturn B E dX8_quiet_52 ?_
  exact h44
set_option maxHeartbeats 4000000 in
set_option maxRecDepth 100000 in
theorem c_X8_quiet_bad {l : Launch} {V : ab_V} {mu : ab_mem} {a b c i : Int32} (hV : ab_OK V ShM) (hbad : ¬ (inB a 0 1 = true ∧ inB b 0 23 = true ∧ inB c b 23 = true ∧ inB i (-1) (c - b) = true)) : CT l V ShM yX8_quiet wsX8_quiet rm_X8_quiet [.ref (aL V 0), .int a, .int b, .int c, .int i] mu (pI (fun r mu2 => r = -2 ∧ mu = mu2)) := by
  refine ab_enter hV (by decide) rfl (Nat.le_of_ble_eq_true rfl) ?_
  intro X B E
  have B : CX X l rm_X8_quiet RX8 cX8_quiet wsX8_quiet 5 V ShM := B
  show AW X V ShM 5 0 [some (.ref (aL V 0)), some (.int a), some (.int b), some (.int c), some (.int i)] [] mu
  refine a_iload_n B dX8_quiet_0 rfl ?_
  refine a_iconst (v := 0) B dX8_quiet_1 (by decide) ?_
  refine a_iconst (v := 1) B dX8_quiet_2 (by decide) ?_
  refine a_callSi B k_X8_quiet_71 (c_X8_in hV) rfl rfl (Nat.le_of_ble_eq_true rfl) dX8_quiet_3 (fun r3 mu3 h3 => ?_)
  obtain ⟨rfl, rfl⟩ := h3
  refine a_if_eq (tgt := 50) B dX8_quiet_6 (by decide) (fun c6 => ?_) (fun c6 => ?_)
  · refine a_bipush (v := -2) B dX8_quiet_50 (by decide) ?_
    refine a_ireturn B E dX8_quiet_52 ?_
    exact ⟨rfl, rfl⟩
  · refine a_iload_n B dX8_quiet_9 rfl ?_
    refine a_callSi B k_X8_quiet_122 (c_X8_isHour hV) rfl rfl (Nat.le_of_ble_eq_true rfl) dX8_quiet_10 (fun r10 mu10 h10 => ?_)
    obtain ⟨rfl, rfl⟩ := h10
    refine a_if_eq (tgt := 50) B dX8_quiet_13 (by decide) (fun c13 => ?_) (fun c13 => ?_)
    · refine a_bipush (v := -2) B dX8_quiet_50 (by decide) ?_
      refine a_ireturn B E dX8_quiet_52 ?_
      exact ⟨rfl, rfl⟩
    · refine a_iload_n B dX8_quiet_16 rfl ?_
      refine a_iload_n B dX8_quiet_17 rfl ?_
      refine a_bipush (v := 23) B dX8_quiet_18 (by decide) ?_
      refine a_callSi B k_X8_quiet_71 (c_X8_in hV) rfl rfl (Nat.le_of_ble_eq_true rfl) dX8_quiet_20 (fun r20 mu20 h20 => ?_)
      obtain ⟨rfl, rfl⟩ := h20
      refine a_if_eq (tgt := 50) B dX8_quiet_23 (by decide) (fun c23 => ?_) (fun c23 => ?_)
      · refine a_bipush (v := -2) B dX8_quiet_50 (by decide) ?_
        refine a_ireturn B E dX8_quiet_52 ?_
        exact ⟨rfl, rfl⟩
      · refine a_iload B dX8_quiet_26 rfl ?_
        refine a_iconst (v := -1) B dX8_quiet_28 (by decide) ?_
        refine a_iload_n B dX8_quiet_29 rfl ?_
        refine a_iload_n B dX8_quiet_30 rfl ?_
        refine a_isub B dX8_quiet_31 ?_
        refine a_callSi B k_X8_quiet_71 (c_X8_in hV) rfl rfl (Nat.le_of_ble_eq_true rfl) dX8_quiet_32 (fun r32 mu32 h32 => ?_)
        obtain ⟨rfl, rfl⟩ := h32
        refine a_if_eq (tgt := 50) B dX8_quiet_35 (by decide) (fun c35 => ?_) (fun c35 => ?_)
        · refine a_bipush (v := -2) B dX8_quiet_50 (by decide) ?_
          refine a_ireturn B E dX8_quiet_52 ?_
          exact ⟨rfl, rfl⟩
        · exfalso
          simp_all [bI_0, bI_n0]
