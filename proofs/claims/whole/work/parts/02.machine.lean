/-! The abstract machine: a world of a fixed shape (labels), its contents as numbers by label and place. -/
/-- a cell's kind: an object (its class, its fields: a fixed label or a number), an array of numbers (type, length), an array of labels -/
abbrev ab_kd : Type := (Nat × List (Option Nat)) ⊕ ((Nat × Nat) ⊕ (Nat × List Nat))
abbrev ab_mem : Type := Nat → Nat → Int32
abbrev ab_V : Type := va_G × (Nat → ClassId) × (Nat → Nat) × (State → Prop)
def aL (V : ab_V) : Nat → Nat := V.2.2.1
def ab_fv (V : ab_V) (mu : ab_mem) (i j : Nat) (f : Option Nat) : Value := match f with
  | some r => .ref (aL V r)
  | none => .int (mu i j)
def ab_cell (V : ab_V) (mu : ab_mem) (i : Nat) (k : ab_kd) : va_E := match k with
  | .inl o => .inr (o.1, o.2.mapIdx (fun j f => ab_fv V mu i j f))
  | .inr (.inl a) => .inl (V.2.1 a.1, a.2, .inl (mu i))
  | .inr (.inr a) => .inl (V.2.1 a.1, a.2.length, .inr (.inr (.inr (.inr (fun j => (a.2[j]?).map (aL V))))))
def ab_wd (V : ab_V) (mu : ab_mem) (Sh : List ab_kd) : va_W := Sh.mapIdx (fun i k => (aL V i, ab_cell V mu i k))
def ab_up (mu : ab_mem) (q k : Nat) (x : Int32) : ab_mem := fun a => if a = q then upd (mu q) k x else mu a
def ab_row (mu : ab_mem) (q : Nat) (f : Nat → Int32) : ab_mem := fun a => if a = q then f else mu a
def ab_A (V : ab_V) (Sh : List ab_kd) : Nat → Prop := fun q => ∃ k, k < Sh.length ∧ aL V k = q
def ab_tys (V : ab_V) : List (ClassId × FieldType) := [(V.2.1 0, .int), (V.2.1 1, .boolean), (V.2.1 2, .object RX1), (V.2.1 3, .object RX0), (V.2.1 4, .object RX4)]
theorem ab_get {V : ab_V} {mu : ab_mem} {Sh : List ab_kd} {q : Nat} {k : ab_kd} (h : Sh[q]? = some k) : (ab_wd V mu Sh)[q]? = some (aL V q, ab_cell V mu q k) := by
  simp [ab_wd, List.getElem?_mapIdx, h]
theorem ab_got {V : ab_V} {mu : ab_mem} {Sh : List ab_kd} {q : Nat} {x : Nat × va_E} (h : (ab_wd V mu Sh)[q]? = some x) : q < Sh.length ∧ x.1 = aL V q := by
  rw [ab_wd, List.getElem?_mapIdx] at h
  cases hk : Sh[q]? with
  | none => rw [hk] at h; cases h
  | some k =>
    rw [hk] at h
    refine ⟨(List.getElem?_eq_some_iff.mp hk).1, ?_⟩
    rw [← Option.some.inj h]
theorem ab_cell_same {V : ab_V} {mu mu' : ab_mem} {i : Nat} (h : mu i = mu' i) (k : ab_kd) : ab_cell V mu i k = ab_cell V mu' i k := by
  unfold ab_cell ab_fv
  rw [h]
theorem ab_set {V : ab_V} {mu mu' : ab_mem} {Sh : List ab_kd} {q : Nat} {k : ab_kd} (h : Sh[q]? = some k) (hs : ∀ i, i ≠ q → mu i = mu' i) : (ab_wd V mu Sh).set q (aL V q, ab_cell V mu' q k) = ab_wd V mu' Sh := by
  apply List.ext_getElem?
  intro i
  rw [List.getElem?_set]
  by_cases hi : q = i
  · subst hi
    have hl : q < (ab_wd V mu Sh).length := by simp [ab_wd]; exact (List.getElem?_eq_some_iff.mp h).1
    rw [if_pos rfl, if_pos hl, ab_get h]
  · rw [if_neg hi, ab_wd, ab_wd, List.getElem?_mapIdx, List.getElem?_mapIdx]
    cases Sh[i]? with
    | none => rfl
    | some k2 =>
      show some (aL V i, _) = some (aL V i, _)
      rw [ab_cell_same (hs i (fun e => hi e.symm))]
theorem ab_up_ne {mu : ab_mem} {q k : Nat} {x : Int32} : ∀ i, i ≠ q → mu i = ab_up mu q k x i := fun i h => by simp [ab_up, h]
theorem ab_row_ne {mu : ab_mem} {q : Nat} {f : Nat → Int32} : ∀ i, i ≠ q → mu i = ab_row mu q f i := fun i h => by simp [ab_row, h]
theorem ab_cell_obj {V : ab_V} {mu : ab_mem} {q k ci : Nat} {fs : List (Option Nat)} {x : Int32} (hf : fs[k]? = some none) : (Sum.inr (ci, (fs.mapIdx (fun j f => ab_fv V mu q j f)).set k (Value.int x)) : va_E) = ab_cell V (ab_up mu q k x) q (.inl (ci, fs)) := by
  show _ = (Sum.inr (ci, fs.mapIdx (fun j f => ab_fv V (ab_up mu q k x) q j f)) : va_E)
  congr 2
  apply List.ext_getElem?
  intro i
  rw [List.getElem?_set, List.getElem?_mapIdx, List.getElem?_mapIdx]
  have hk := (List.getElem?_eq_some_iff.mp hf).1
  by_cases hi : k = i
  · subst hi
    rw [if_pos rfl, if_pos (by simpa using hk), hf]
    simp [ab_fv, ab_up, upd]
  · rw [if_neg hi]
    cases fs[i]? with
    | none => rfl
    | some f =>
      cases f with
      | none =>
        simp [ab_fv, ab_up, upd]
        exact fun e => absurd e.symm hi
      | some r => rfl
theorem ab_cell_arr {V : ab_V} {mu : ab_mem} {q k t n : Nat} {x : Int32} : (Sum.inl (V.2.1 t, n, .inl (upd (mu q) k x)) : va_E) = ab_cell V (ab_up mu q k x) q (.inr (.inl (t, n))) := by
  simp [ab_cell, ab_up]
theorem ab_cell_row {V : ab_V} {mu : ab_mem} {q t n : Nat} {f : Nat → Int32} : (Sum.inl (V.2.1 t, n, .inl f) : va_E) = ab_cell V (ab_row mu q f) q (.inr (.inl (t, n))) := by
  simp [ab_cell, ab_row]
/-- what a world must keep: labels apart, what is carried along -/
def ab_OK (V : ab_V) (Sh : List ab_kd) : Prop := (∀ i j, i < Sh.length → j < Sh.length → aL V i = aL V j → i = j) ∧ (∀ (s U : State) (H : Heap) (locs : List Loc), va_S (ab_A V Sh) s.heap H locs → U.heap = H → s.WarmedH U.vm → V.2.2.2 s → V.2.2.2 U) ∧ ∀ (U : State) (g : JFrame) (mk : MethodId) (a : Array Value), V.2.2.2 U → V.2.2.2 (U.calling g mk a)
theorem ab_D {V : ab_V} {Sh : List ab_kd} (h : ab_OK V Sh) (mu : ab_mem) : va_D (ab_A V Sh) (ab_wd V mu Sh) := by
  refine ⟨fun i j p q hi hj e => ?_, fun k q hk => ?_⟩
  · obtain ⟨h1, h2⟩ := ab_got hi
    obtain ⟨h3, h4⟩ := ab_got hj
    exact h.1 i j h1 h3 (by rw [← h2, ← h4]; exact e)
  · obtain ⟨h1, h2⟩ := ab_got hk
    exact ⟨k, h1, h2.symm⟩
/-! locals -/
def ab_LH (ls : Array Slot) (nL : Nat) (lo : List (Option Value)) : Prop := ls.size = nL ∧ lv_wf ls ∧ ∀ (i : Nat) (v : Value), lo[i]? = some (some v) → ls[i]? = some (.val v)
def ab_pr (lo : List (Option Value)) : List (Nat × Value) := lo.zipIdx.filterMap (fun q => q.1.map (fun v => (q.2, v)))
theorem ab_pr_mem {lo : List (Option Value)} {i : Nat} {v : Value} : (i, v) ∈ ab_pr lo ↔ lo[i]? = some (some v) := by
  unfold ab_pr
  rw [List.mem_filterMap]
  constructor
  · rintro ⟨⟨a, b⟩, h1, h2⟩
    have h3 := List.mem_zipIdx_iff_getElem?.mp h1
    cases a with
    | none => cases h2
    | some w =>
      have h4 := Option.some.inj h2
      cases h4
      exact h3
  · intro h
    exact ⟨(some v, i), List.mem_zipIdx_iff_getElem?.mpr h, rfl⟩
theorem ab_LH.has {ls : Array Slot} {nL : Nat} {lo : List (Option Value)} (h : ab_LH ls nL lo) : lv_has ls nL (ab_pr lo) := ⟨h.1, h.2.1, fun q hq => h.2.2 q.1 q.2 (ab_pr_mem.mp hq)⟩
def ab_k1 (o : Option Value) : Option Value := match o with
  | some w => if w.category = 2 then none else some w
  | none => none
def ab_k : List (Option Value) → Nat → List (Option Value)
  | [], _ => []
  | o :: r, 0 => ab_k1 o :: r
  | o :: r, n + 1 => o :: ab_k r n
def ab_kill (lo : List (Option Value)) (i : Nat) : List (Option Value) := match i with
  | 0 => lo
  | j + 1 => ab_k lo j
def ab_p1 (lo : List (Option Value)) (i : Nat) (v : Value) : List (Option Value) := (ab_kill lo i).set i (some v)
def ab_p2 (lo : List (Option Value)) (i : Nat) (v : Value) : List (Option Value) := (ab_p1 lo i v).set (i + 1) none
theorem ab_k_get {w : Value} : ∀ (lo : List (Option Value)) (j k : Nat), (ab_k lo j)[k]? = some (some w) → lo[k]? = some (some w) ∧ ¬ (k = j ∧ w.category = 2) := by
  intro lo
  induction lo with
  | nil => intro j k h; simp [ab_k] at h
  | cons o r ih =>
    intro j k h
    cases j with
    | zero =>
      cases k with
      | zero =>
        have h2 : ab_k1 o = some w := by simpa [ab_k] using h
        cases o with
        | none => simp [ab_k1] at h2
        | some v =>
          simp only [ab_k1] at h2
          split at h2
          · cases h2
          · rename_i hc
            cases h2
            exact ⟨rfl, fun q => hc q.2⟩
      | succ k => exact ⟨by simpa [ab_k] using h, fun q => by omega⟩
    | succ j =>
      cases k with
      | zero => exact ⟨by simpa [ab_k] using h, fun q => by omega⟩
      | succ k =>
        have h2 : (ab_k r j)[k]? = some (some w) := by simpa [ab_k] using h
        obtain ⟨a, b⟩ := ih j k h2
        exact ⟨by simpa using a, fun q => b ⟨by omega, q.2⟩⟩
theorem ab_kill_get {lo : List (Option Value)} {i j : Nat} {w : Value} (h : (ab_kill lo i)[j]? = some (some w)) : lo[j]? = some (some w) ∧ ¬ (j + 1 = i ∧ w.category = 2) := by
  cases i with
  | zero => exact ⟨h, fun q => by omega⟩
  | succ i =>
    obtain ⟨a, b⟩ := ab_k_get lo i j h
    exact ⟨a, fun q => b ⟨by omega, q.2⟩⟩
theorem ab_LH.p1 {ls' : Array Slot} {nL i : Nat} {lo : List (Option Value)} {v : Value} (h : lv_has ls' nL ((i, v) :: (ab_pr lo).filter (fun q => !(q.1 == i) && !(q.1 + 1 == i && q.2.category == 2)))) : ab_LH ls' nL (ab_p1 lo i v) := by
  refine ⟨h.1, h.2.1, fun j w hw => h.2.2 (j, w) ?_⟩
  unfold ab_p1 at hw
  rw [List.getElem?_set] at hw
  by_cases hj : i = j
  · subst hj
    rw [if_pos rfl] at hw
    split at hw
    · cases hw
      exact List.mem_cons_self
    · cases hw
  · rw [if_neg hj] at hw
    obtain ⟨h1, h2⟩ := ab_kill_get hw
    refine List.mem_cons_of_mem _ (List.mem_filter.mpr ⟨ab_pr_mem.mpr h1, ?_⟩)
    have hj' : ¬ j = i := fun e => hj e.symm
    by_cases hc : j + 1 = i
    · have : ¬ w.category = 2 := fun q => h2 ⟨hc, q⟩
      simp [hj', this]
    · simp [hj', hc]
theorem ab_LH.p2 {ls' : Array Slot} {nL i : Nat} {lo : List (Option Value)} {v : Value} (h : lv_has ls' nL ((i, v) :: (ab_pr lo).filter (fun q => !(q.1 == i) && (!(q.1 == i + 1) && !(q.1 + 1 == i && q.2.category == 2))))) : ab_LH ls' nL (ab_p2 lo i v) := by
  refine ⟨h.1, h.2.1, fun j w hw => h.2.2 (j, w) ?_⟩
  unfold ab_p2 ab_p1 at hw
  rw [List.getElem?_set] at hw
  by_cases hj1 : i + 1 = j
  · rw [if_pos hj1] at hw
    split at hw
    · cases hw
    · cases hw
  · rw [if_neg hj1, List.getElem?_set] at hw
    by_cases hj : i = j
    · subst hj
      rw [if_pos rfl] at hw
      split at hw
      · cases hw
        exact List.mem_cons_self
      · cases hw
    · rw [if_neg hj] at hw
      obtain ⟨h1, h2⟩ := ab_kill_get hw
      refine List.mem_cons_of_mem _ (List.mem_filter.mpr ⟨ab_pr_mem.mpr h1, ?_⟩)
      have hj' : ¬ j = i := fun e => hj e.symm
      have hj2 : ¬ j = i + 1 := fun e => hj1 e.symm
      by_cases hc : j + 1 = i
      · have : ¬ w.category = 2 := fun q => h2 ⟨hc, q⟩
        simp [hj', hj2, this]
      · simp [hj', hj2, hc]
/-! the judgement -/
abbrev ab_X : Type := Program × Launch × Env × Room × State × MethodId × Array Value × List Frame × Method × Code × (State → Prop)
abbrev xp (X : ab_X) : Program := X.1
abbrev xl (X : ab_X) : Launch := X.2.1
abbrev xe (X : ab_X) : Env := X.2.2.1
abbrev xR (X : ab_X) : Room := X.2.2.2.1
abbrev xs (X : ab_X) : State := X.2.2.2.2.1
abbrev xm (X : ab_X) : MethodId := X.2.2.2.2.2.1
abbrev xa (X : ab_X) : Array Value := X.2.2.2.2.2.2.1
abbrev xb (X : ab_X) : List Frame := X.2.2.2.2.2.2.2.1
abbrev xM (X : ab_X) : Method := X.2.2.2.2.2.2.2.2.1
abbrev xc (X : ab_X) : Code := X.2.2.2.2.2.2.2.2.2.1
abbrev xQ (X : ab_X) : State → Prop := X.2.2.2.2.2.2.2.2.2.2
def AW (X : ab_X) (V : ab_V) (Sh : List ab_kd) (nL pc : Nat) (lo : List (Option Value)) (st : List Value) (mu : ab_mem) : Prop :=
  ∀ (H : Heap) (locs : List Loc) (ls : Array Slot), va_P V.1 vwCl (ab_wd V mu Sh) H → va_S (ab_A V Sh) (xs X).heap H locs → ab_LH ls nL lo → W (xp X) (xl X) (xe X) (xR X) (xs X) (xm X) (xa X) (xb X) (xM X) (xc X) H locs 0 0 (xQ X) (F0 (xm X) pc ls st)
def CX (X : ab_X) (l : Launch) (R : Room) (own : String) (cc : ByteArray) (Ts : List Cond) (nL : Nat) (V : ab_V) (Sh : List ab_kd) : Prop :=
  CallFix (xp X) (xm X) (xc X) cc nL (xs X) (xa X) Ts own ∧ va_K V.1 vwCl (ab_tys V) (xs X) ∧ ab_OK V Sh ∧ V.2.2.2 (xs X) ∧ (xM X).locks = false ∧ xl X = l ∧ xR X = R
def ab_Pc (V : ab_V) (Sh : List ab_kd) (As : List Value) (mu : ab_mem) : Array Value → State → Prop := fun v U => v = As.toArray ∧ va_P V.1 vwCl (ab_wd V mu Sh) U.heap ∧ va_K V.1 vwCl (ab_tys V) U ∧ V.2.2.2 U
abbrev ab_po : Type := Option Value → ab_mem → Prop
def ab_Q (V : ab_V) (Sh : List ab_kd) (po : ab_po) : Array Value → State → Outcome → State → Prop := fun _ st oc t => (∃ (r : Option Value) (mu' : ab_mem), oc = .returned r ∧ po r mu' ∧ va_P V.1 vwCl (ab_wd V mu' Sh) t.heap) ∧ va_F (ab_A V Sh) st t
/-- a contract: from the contents mu the method answers r and leaves mu', and po r mu' -/
def CT (l : Launch) (V : ab_V) (Sh : List ab_kd) (y : MethodName) (ws : List Cond) (rm : Room) (As : List Value) (mu : ab_mem) (po : ab_po) : Prop := Met l y ws rm (ab_Pc V Sh As mu) (ab_Q V Sh po) 0 0 (ab_A V Sh)
def pI (P : Int32 → ab_mem → Prop) : ab_po := fun r mu => ∃ v, r = some (.int v) ∧ P v mu
def pL (P : Int64 → ab_mem → Prop) : ab_po := fun r mu => ∃ v, r = some (.long v) ∧ P v mu
def pR (P : Nat → ab_mem → Prop) : ab_po := fun r mu => ∃ v, r = some (.ref v) ∧ P v mu
def pV (P : ab_mem → Prop) : ab_po := fun r mu => r = none ∧ P mu
def RX (X : ab_X) (V : ab_V) (Sh : List ab_kd) (ret : Option FieldType) (po : ab_po) : Prop := (xM X).sig.returnType = ret ∧ xQ X = MQ (xb X) (ab_Q V Sh po) (xa X) (xs X) 0 0 (ab_A V Sh)
def ab_lo (n : Nat) (l : List (Nat × Value)) : List (Option Value) := (List.range n).map (fun i => l.lookup i)
theorem ab_lookup {l : List (Nat × Value)} {i : Nat} {v : Value} (h : l.lookup i = some v) : (i, v) ∈ l := by
  induction l with
  | nil => cases h
  | cons q l ih =>
    obtain ⟨a, b⟩ := q
    rw [List.lookup_cons] at h
    by_cases e : i = a
    · subst e
      simp at h
      subst h
      exact List.mem_cons_self
    · have e' : (i == a) = false := by simpa using e
      rw [e'] at h
      exact List.mem_cons_of_mem _ (ih h)
theorem ab_lo_get {n : Nat} {l : List (Nat × Value)} {i : Nat} {v : Value} (h : (ab_lo n l)[i]? = some (some v)) : (i, v) ∈ l := by
  unfold ab_lo at h
  rw [List.getElem?_map] at h
  cases hr : (List.range n)[i]? with
  | none => rw [hr] at h; cases h
  | some j =>
    rw [hr] at h
    have hj : j = i := by
      have := List.getElem?_eq_some_iff.mp hr
      obtain ⟨h1, h2⟩ := this
      simpa using h2.symm
    subst hj
    exact ab_lookup (Option.some.inj h)
set_option maxHeartbeats 4000000 in
theorem ab_enter {l : Launch} {V : ab_V} {Sh : List ab_kd} {y : MethodName} {ws ws' : List Cond} {rm : Room} {As : List Value} {mu : ab_mem} {po : ab_po} {cc : ByteArray} {nL : Nat} {ret : Option FieldType} (hV : ab_OK V Sh) (hy : plainName y.cls = true) (hw : ws = Cond.code y cc nL ret :: ws') (hlen : (lg_sl As).length ≤ nL)
    (body : ∀ X : ab_X, CX X l rm y.cls cc ws nL V Sh → RX X V Sh ret po → AW X V Sh nL 0 (ab_lo nL (lv_args 0 As)) [] mu) : CT l V Sh y ws rm As mu po := by
  refine Met.ofW (cc := cc) (maxL := nL) (ret := ret) hy hw ?_
  intro p e s m args below meth c s₁ B hml hv
  obtain ⟨rfl, hP, hK, hE⟩ := hv
  have hts := atoms_spec (ws := ws) B.pre
  have hown : s.vm.findClass y.cls = some m.cls := findClass_of_methodNamed B.named
  have hl := lv_entry As (n := nL) hlen
  rw [lg_entry_eq]
  refine body (p, l, e, (headSpec ws rm).room, s, m, As.toArray, below, meth, c, MQ below (ab_Q V Sh po) As.toArray s 0 0 (ab_A V Sh)) ⟨⟨B.exec, B.bytes, hml, hown, hts⟩, hK, hV, hE, B.notSynchronized, rfl, rfl⟩ ⟨B.returns, rfl⟩ s.heap [] _ hP va_S.rf ?_
  exact ⟨hl.1, hl.2.1, fun i v h => hl.2.2 (i, v) (ab_lo_get h)⟩
section ABR
variable {X : ab_X} {l : Launch} {R : Room} {own : String} {cc : ByteArray} {Ts : List Cond} {nL : Nat} {V : ab_V} {Sh : List ab_kd} {pc : Nat} {lo : List (Option Value)} {st : List Value} {mu : ab_mem}

theorem a_fg (i : Nat) (k : AW X V Sh nL pc (lo.set i none) st mu) : AW X V Sh nL pc lo st mu := fun H locs ls hP hS hl => k H locs ls hP hS ⟨hl.1, hl.2.1, fun j v h => hl.2.2 j v (by
  rw [List.getElem?_set] at h
  split at h
  · split at h <;> cases h
  · exact h)⟩
theorem a_iconst (B : CX X l R own cc Ts nL V Sh) {n : Int} {v : Int32} (hd : decode cc pc = .ok (.iconst n, 1)) (hv : Int32.ofInt n = v) (k : AW X V Sh nL (pc + 1) lo (.int v :: st) mu) : AW X V Sh nL pc lo (st) mu := fun H locs ls hP hS hl => lv_iconst B.1.1 B.1.2.1  hd hv (k H locs ls hP hS hl)
theorem a_bipush (B : CX X l R own cc Ts nL V Sh) {n : Int} {v : Int32} (hd : decode cc pc = .ok (.bipush n, 2)) (hv : (Int8.ofInt n).toInt32 = v) (k : AW X V Sh nL (pc + 2) lo (.int v :: st) mu) : AW X V Sh nL pc lo (st) mu := fun H locs ls hP hS hl => lv_bipush B.1.1 B.1.2.1  hd hv (k H locs ls hP hS hl)
theorem a_sipush (B : CX X l R own cc Ts nL V Sh) {n : Int} {v : Int32} (hd : decode cc pc = .ok (.sipush n, 3)) (hv : (Int16.ofInt n).toInt32 = v) (k : AW X V Sh nL (pc + 3) lo (.int v :: st) mu) : AW X V Sh nL pc lo (st) mu := fun H locs ls hP hS hl => lv_sipush B.1.1 B.1.2.1  hd hv (k H locs ls hP hS hl)
theorem a_lconst (B : CX X l R own cc Ts nL V Sh) {n : Fin 2} {v : Int64} (hd : decode cc pc = .ok (.lconst n, 1)) (hv : Int64.ofNat (n : Nat) = v) (k : AW X V Sh nL (pc + 1) lo (.long v :: st) mu) : AW X V Sh nL pc lo (st) mu := fun H locs ls hP hS hl => lv_lconst B.1.1 B.1.2.1  hd hv (k H locs ls hP hS hl)
theorem a_iload_n (B : CX X l R own cc Ts nL V Sh) {k : Fin 4} {x : Int32} (hd : decode cc pc = .ok (.iload_n k, 1)) (hl0 : lo[k.val]? = some (some (.int x))) (k : AW X V Sh nL (pc + 1) lo (.int x :: st) mu) : AW X V Sh nL pc lo (st) mu := fun H locs ls hP hS hl => lv_iload_n B.1.1 B.1.2.1  hd rfl (hl.2.2 _ _ hl0) (k H locs ls hP hS hl)
theorem a_iload (B : CX X l R own cc Ts nL V Sh) {i : Nat} {x : Int32} (hd : decode cc pc = .ok (.iload i, 2)) (hl0 : lo[i]? = some (some (.int x))) (k : AW X V Sh nL (pc + 2) lo (.int x :: st) mu) : AW X V Sh nL pc lo (st) mu := fun H locs ls hP hS hl => lv_iload B.1.1 B.1.2.1  hd (hl.2.2 _ _ hl0) (k H locs ls hP hS hl)
theorem a_istore_n (B : CX X l R own cc Ts nL V Sh) {k : Fin 4} {x : Int32} (hd : decode cc pc = .ok (.istore_n k, 1)) (hn : k.val < nL) (kk : AW X V Sh nL (pc + 1) (ab_p1 lo k.val (.int x)) st mu) : AW X V Sh nL pc lo (.int x :: st) mu := fun H locs ls hP hS hl => lv_istore_n B.1.1 B.1.2.1 hd rfl hl.has hn rfl (fun ls2 hl2 => kk H locs ls2 hP hS (ab_LH.p1 hl2))
theorem a_istore (B : CX X l R own cc Ts nL V Sh) {i : Nat} {x : Int32} (hd : decode cc pc = .ok (.istore i, 2)) (hn : i < nL) (kk : AW X V Sh nL (pc + 2) (ab_p1 lo i (.int x)) st mu) : AW X V Sh nL pc lo (.int x :: st) mu := fun H locs ls hP hS hl => lv_istore B.1.1 B.1.2.1 hd hl.has hn rfl (fun ls2 hl2 => kk H locs ls2 hP hS (ab_LH.p1 hl2))
theorem a_lload_n (B : CX X l R own cc Ts nL V Sh) {k : Fin 4} {x : Int64} (hd : decode cc pc = .ok (.lload_n k, 1)) (hl0 : lo[k.val]? = some (some (.long x))) (k : AW X V Sh nL (pc + 1) lo (.long x :: st) mu) : AW X V Sh nL pc lo (st) mu := fun H locs ls hP hS hl => lv_lload_n B.1.1 B.1.2.1  hd rfl (hl.2.2 _ _ hl0) (k H locs ls hP hS hl)
theorem a_lload (B : CX X l R own cc Ts nL V Sh) {i : Nat} {x : Int64} (hd : decode cc pc = .ok (.lload i, 2)) (hl0 : lo[i]? = some (some (.long x))) (k : AW X V Sh nL (pc + 2) lo (.long x :: st) mu) : AW X V Sh nL pc lo (st) mu := fun H locs ls hP hS hl => lv_lload B.1.1 B.1.2.1  hd (hl.2.2 _ _ hl0) (k H locs ls hP hS hl)
theorem a_lstore_n (B : CX X l R own cc Ts nL V Sh) {k : Fin 4} {x : Int64} (hd : decode cc pc = .ok (.lstore_n k, 1)) (hn : k.val + 1 < nL) (kk : AW X V Sh nL (pc + 1) (ab_p2 lo k.val (.long x)) st mu) : AW X V Sh nL pc lo (.long x :: st) mu := fun H locs ls hP hS hl => lv_lstore_n B.1.1 B.1.2.1 hd rfl hl.has hn rfl (fun ls2 hl2 => kk H locs ls2 hP hS (ab_LH.p2 hl2))
theorem a_lstore (B : CX X l R own cc Ts nL V Sh) {i : Nat} {x : Int64} (hd : decode cc pc = .ok (.lstore i, 2)) (hn : i + 1 < nL) (kk : AW X V Sh nL (pc + 2) (ab_p2 lo i (.long x)) st mu) : AW X V Sh nL pc lo (.long x :: st) mu := fun H locs ls hP hS hl => lv_lstore B.1.1 B.1.2.1 hd hl.has hn rfl (fun ls2 hl2 => kk H locs ls2 hP hS (ab_LH.p2 hl2))
theorem a_aload_n (B : CX X l R own cc Ts nL V Sh) {k : Fin 4} {x : Nat} (hd : decode cc pc = .ok (.aload_n k, 1)) (hl0 : lo[k.val]? = some (some (.ref x))) (k : AW X V Sh nL (pc + 1) lo (.ref x :: st) mu) : AW X V Sh nL pc lo (st) mu := fun H locs ls hP hS hl => lv_aload_n B.1.1 B.1.2.1  hd rfl (hl.2.2 _ _ hl0) (k H locs ls hP hS hl)
theorem a_aload (B : CX X l R own cc Ts nL V Sh) {i : Nat} {x : Nat} (hd : decode cc pc = .ok (.aload i, 2)) (hl0 : lo[i]? = some (some (.ref x))) (k : AW X V Sh nL (pc + 2) lo (.ref x :: st) mu) : AW X V Sh nL pc lo (st) mu := fun H locs ls hP hS hl => lv_aload B.1.1 B.1.2.1  hd (hl.2.2 _ _ hl0) (k H locs ls hP hS hl)
theorem a_astore_n (B : CX X l R own cc Ts nL V Sh) {k : Fin 4} {x : Nat} (hd : decode cc pc = .ok (.astore_n k, 1)) (hn : k.val < nL) (kk : AW X V Sh nL (pc + 1) (ab_p1 lo k.val (.ref x)) st mu) : AW X V Sh nL pc lo (.ref x :: st) mu := fun H locs ls hP hS hl => lv_astore_n B.1.1 B.1.2.1 hd rfl hl.has hn rfl (fun ls2 hl2 => kk H locs ls2 hP hS (ab_LH.p1 hl2))
theorem a_astore (B : CX X l R own cc Ts nL V Sh) {i : Nat} {x : Nat} (hd : decode cc pc = .ok (.astore i, 2)) (hn : i < nL) (kk : AW X V Sh nL (pc + 2) (ab_p1 lo i (.ref x)) st mu) : AW X V Sh nL pc lo (.ref x :: st) mu := fun H locs ls hP hS hl => lv_astore B.1.1 B.1.2.1 hd hl.has hn rfl (fun ls2 hl2 => kk H locs ls2 hP hS (ab_LH.p1 hl2))
theorem a_iinc (B : CX X l R own cc Ts nL V Sh) {i : Nat} {n : Int} {x v : Int32} (hd : decode cc pc = .ok (.iinc i n, 3)) (hl0 : lo[i]? = some (some (.int x))) (hv : Int32.ofInt n = v) (hn : i < nL) (kk : AW X V Sh nL (pc + 3) (ab_p1 lo i (.int (x + v))) st mu) : AW X V Sh nL pc lo st mu := fun H locs ls hP hS hl => by
  obtain ⟨k, hk⟩ := List.getElem?_of_mem (ab_pr_mem.mpr hl0)
  exact lv_iinc B.1.1 B.1.2.1 hd hl.has hk (by rw [hv]) hn rfl (fun ls2 hl2 => kk H locs ls2 hP hS (ab_LH.p1 hl2))
theorem a_iadd (B : CX X l R own cc Ts nL V Sh) {x y : Int32} (hd : decode cc pc = .ok (.iadd, 1))  (k : AW X V Sh nL (pc + 1) lo (.int (x + y) :: st) mu) : AW X V Sh nL pc lo (.int y :: .int x :: st) mu := fun H locs ls hP hS hl => lv_iadd B.1.1 B.1.2.1  hd  (k H locs ls hP hS hl)
theorem a_isub (B : CX X l R own cc Ts nL V Sh) {x y : Int32} (hd : decode cc pc = .ok (.isub, 1))  (k : AW X V Sh nL (pc + 1) lo (.int (x - y) :: st) mu) : AW X V Sh nL pc lo (.int y :: .int x :: st) mu := fun H locs ls hP hS hl => lv_isub B.1.1 B.1.2.1  hd  (k H locs ls hP hS hl)
theorem a_imul (B : CX X l R own cc Ts nL V Sh) {x y : Int32} (hd : decode cc pc = .ok (.imul, 1))  (k : AW X V Sh nL (pc + 1) lo (.int (x * y) :: st) mu) : AW X V Sh nL pc lo (.int y :: .int x :: st) mu := fun H locs ls hP hS hl => lv_imul B.1.1 B.1.2.1  hd  (k H locs ls hP hS hl)
theorem a_iand (B : CX X l R own cc Ts nL V Sh) {x y : Int32} (hd : decode cc pc = .ok (.iand, 1))  (k : AW X V Sh nL (pc + 1) lo (.int (x &&& y) :: st) mu) : AW X V Sh nL pc lo (.int y :: .int x :: st) mu := fun H locs ls hP hS hl => lv_iand B.1.1 B.1.2.1  hd  (k H locs ls hP hS hl)
theorem a_ior (B : CX X l R own cc Ts nL V Sh) {x y : Int32} (hd : decode cc pc = .ok (.ior, 1))  (k : AW X V Sh nL (pc + 1) lo (.int (x ||| y) :: st) mu) : AW X V Sh nL pc lo (.int y :: .int x :: st) mu := fun H locs ls hP hS hl => lv_ior B.1.1 B.1.2.1  hd  (k H locs ls hP hS hl)
theorem a_ixor (B : CX X l R own cc Ts nL V Sh) {x y : Int32} (hd : decode cc pc = .ok (.ixor, 1))  (k : AW X V Sh nL (pc + 1) lo (.int (x ^^^ y) :: st) mu) : AW X V Sh nL pc lo (.int y :: .int x :: st) mu := fun H locs ls hP hS hl => lv_ixor B.1.1 B.1.2.1  hd  (k H locs ls hP hS hl)
theorem a_ishl (B : CX X l R own cc Ts nL V Sh) {x y : Int32} (hd : decode cc pc = .ok (.ishl, 1))  (k : AW X V Sh nL (pc + 1) lo (.int (x <<< (y &&& 31)) :: st) mu) : AW X V Sh nL pc lo (.int y :: .int x :: st) mu := fun H locs ls hP hS hl => lv_ishl B.1.1 B.1.2.1  hd  (k H locs ls hP hS hl)
theorem a_ishr (B : CX X l R own cc Ts nL V Sh) {x y : Int32} (hd : decode cc pc = .ok (.ishr, 1))  (k : AW X V Sh nL (pc + 1) lo (.int (x >>> (y &&& 31)) :: st) mu) : AW X V Sh nL pc lo (.int y :: .int x :: st) mu := fun H locs ls hP hS hl => lv_ishr B.1.1 B.1.2.1  hd  (k H locs ls hP hS hl)
theorem a_iushr (B : CX X l R own cc Ts nL V Sh) {x y : Int32} (hd : decode cc pc = .ok (.iushr, 1))  (k : AW X V Sh nL (pc + 1) lo (.int ((x.toUInt32 >>> (y.toUInt32 &&& Int32.toUInt32 31)).toInt32) :: st) mu) : AW X V Sh nL pc lo (.int y :: .int x :: st) mu := fun H locs ls hP hS hl => lv_iushr B.1.1 B.1.2.1  hd rfl (k H locs ls hP hS hl)
theorem a_idiv (B : CX X l R own cc Ts nL V Sh) {x y : Int32} (hd : decode cc pc = .ok (.idiv, 1)) (hne : ¬ y = 0) (k : AW X V Sh nL (pc + 1) lo (.int (x / y) :: st) mu) : AW X V Sh nL pc lo (.int y :: .int x :: st) mu := fun H locs ls hP hS hl => lv_idiv B.1.1 B.1.2.1  hd hne (k H locs ls hP hS hl)
theorem a_irem (B : CX X l R own cc Ts nL V Sh) {x y : Int32} (hd : decode cc pc = .ok (.irem, 1)) (hne : ¬ y = 0) (k : AW X V Sh nL (pc + 1) lo (.int (x - x / y * y) :: st) mu) : AW X V Sh nL pc lo (.int y :: .int x :: st) mu := fun H locs ls hP hS hl => lv_irem B.1.1 B.1.2.1  hd hne (k H locs ls hP hS hl)
theorem a_ladd (B : CX X l R own cc Ts nL V Sh) {x y : Int64} (hd : decode cc pc = .ok (.ladd, 1))  (k : AW X V Sh nL (pc + 1) lo (.long (x + y) :: st) mu) : AW X V Sh nL pc lo (.long y :: .long x :: st) mu := fun H locs ls hP hS hl => lv_ladd B.1.1 B.1.2.1  hd  (k H locs ls hP hS hl)
theorem a_lsub (B : CX X l R own cc Ts nL V Sh) {x y : Int64} (hd : decode cc pc = .ok (.lsub, 1))  (k : AW X V Sh nL (pc + 1) lo (.long (x - y) :: st) mu) : AW X V Sh nL pc lo (.long y :: .long x :: st) mu := fun H locs ls hP hS hl => lv_lsub B.1.1 B.1.2.1  hd  (k H locs ls hP hS hl)
theorem a_lmul (B : CX X l R own cc Ts nL V Sh) {x y : Int64} (hd : decode cc pc = .ok (.lmul, 1))  (k : AW X V Sh nL (pc + 1) lo (.long (x * y) :: st) mu) : AW X V Sh nL pc lo (.long y :: .long x :: st) mu := fun H locs ls hP hS hl => lv_lmul B.1.1 B.1.2.1  hd  (k H locs ls hP hS hl)
theorem a_ldiv (B : CX X l R own cc Ts nL V Sh) {x y : Int64} (hd : decode cc pc = .ok (.ldiv, 1)) (hne : ¬ y = 0) (k : AW X V Sh nL (pc + 1) lo (.long (x / y) :: st) mu) : AW X V Sh nL pc lo (.long y :: .long x :: st) mu := fun H locs ls hP hS hl => lv_ldiv B.1.1 B.1.2.1  hd hne (k H locs ls hP hS hl)
theorem a_lrem (B : CX X l R own cc Ts nL V Sh) {x y : Int64} (hd : decode cc pc = .ok (.lrem, 1)) (hne : ¬ y = 0) (k : AW X V Sh nL (pc + 1) lo (.long (x - x / y * y) :: st) mu) : AW X V Sh nL pc lo (.long y :: .long x :: st) mu := fun H locs ls hP hS hl => lv_lrem B.1.1 B.1.2.1  hd hne (k H locs ls hP hS hl)
theorem a_lcmp (B : CX X l R own cc Ts nL V Sh) {x y : Int64} (hd : decode cc pc = .ok (.lcmp, 1))  (k : AW X V Sh nL (pc + 1) lo (.int (lg_cmp x y) :: st) mu) : AW X V Sh nL pc lo (.long y :: .long x :: st) mu := fun H locs ls hP hS hl => W.lcmp B.1.1 B.1.2.1  hd  (k H locs ls hP hS hl)
theorem a_i2l (B : CX X l R own cc Ts nL V Sh) {x : Int32} (hd : decode cc pc = .ok (.i2l, 1))  (k : AW X V Sh nL (pc + 1) lo (.long (x.toInt64) :: st) mu) : AW X V Sh nL pc lo (.int x :: st) mu := fun H locs ls hP hS hl => lv_i2l B.1.1 B.1.2.1  hd rfl (k H locs ls hP hS hl)
theorem a_i2b (B : CX X l R own cc Ts nL V Sh) {x : Int32} (hd : decode cc pc = .ok (.i2b, 1))  (k : AW X V Sh nL (pc + 1) lo (.int (x.toInt8.toInt32) :: st) mu) : AW X V Sh nL pc lo (.int x :: st) mu := fun H locs ls hP hS hl => lv_i2b B.1.1 B.1.2.1  hd rfl (k H locs ls hP hS hl)
theorem a_i2s (B : CX X l R own cc Ts nL V Sh) {x : Int32} (hd : decode cc pc = .ok (.i2s, 1))  (k : AW X V Sh nL (pc + 1) lo (.int (x.toInt16.toInt32) :: st) mu) : AW X V Sh nL pc lo (.int x :: st) mu := fun H locs ls hP hS hl => lv_i2s B.1.1 B.1.2.1  hd rfl (k H locs ls hP hS hl)
theorem a_dup (B : CX X l R own cc Ts nL V Sh) {va : Value} (hd : decode cc pc = .ok (.dup, 1)) (h1 : va.category = 1) (k : AW X V Sh nL (pc + 1) lo (va :: va :: st) mu) : AW X V Sh nL pc lo (va :: st) mu := fun H locs ls hP hS hl => lv_dup B.1.1 B.1.2.1  hd h1 (k H locs ls hP hS hl)
theorem a_dup2 (B : CX X l R own cc Ts nL V Sh) {va vb : Value} (hd : decode cc pc = .ok (.dup2, 1)) (h1 : va.category = 1) (h2 : vb.category = 1) (k : AW X V Sh nL (pc + 1) lo (va :: vb :: va :: vb :: st) mu) : AW X V Sh nL pc lo (va :: vb :: st) mu := fun H locs ls hP hS hl => lv_dup2_11 B.1.1 B.1.2.1  hd h1 h2 (k H locs ls hP hS hl)
theorem a_if_eq (B : CX X l R own cc Ts nL V Sh) {x : Int32} {off : Int} {tgt : Nat} (hd : decode cc pc = .ok (.ifCond .eq off, 3)) (ht : (pc : Int) + off = (tgt : Int)) (kt : x = 0 → AW X V Sh nL tgt lo st mu) (kf : ¬ (x = 0) → AW X V Sh nL (pc + 3) lo st mu) : AW X V Sh nL pc lo (.int x :: st) mu := fun H locs ls hP hS hl => lv_if_eq B.1.1 B.1.2.1 hd ht (fun q => kt q H locs ls hP hS hl) (fun q => kf q H locs ls hP hS hl)
theorem a_if_ne (B : CX X l R own cc Ts nL V Sh) {x : Int32} {off : Int} {tgt : Nat} (hd : decode cc pc = .ok (.ifCond .ne off, 3)) (ht : (pc : Int) + off = (tgt : Int)) (kt : ¬ x = 0 → AW X V Sh nL tgt lo st mu) (kf : x = 0 → AW X V Sh nL (pc + 3) lo st mu) : AW X V Sh nL pc lo (.int x :: st) mu := fun H locs ls hP hS hl => lv_if_ne B.1.1 B.1.2.1 hd ht (fun q => kt q H locs ls hP hS hl) (fun q => kf q H locs ls hP hS hl)
theorem a_if_lt (B : CX X l R own cc Ts nL V Sh) {x : Int32} {off : Int} {tgt : Nat} (hd : decode cc pc = .ok (.ifCond .lt off, 3)) (ht : (pc : Int) + off = (tgt : Int)) (kt : x < 0 → AW X V Sh nL tgt lo st mu) (kf : ¬ (x < 0) → AW X V Sh nL (pc + 3) lo st mu) : AW X V Sh nL pc lo (.int x :: st) mu := fun H locs ls hP hS hl => lv_if_lt B.1.1 B.1.2.1 hd ht (fun q => kt q H locs ls hP hS hl) (fun q => kf q H locs ls hP hS hl)
theorem a_if_ge (B : CX X l R own cc Ts nL V Sh) {x : Int32} {off : Int} {tgt : Nat} (hd : decode cc pc = .ok (.ifCond .ge off, 3)) (ht : (pc : Int) + off = (tgt : Int)) (kt : 0 ≤ x → AW X V Sh nL tgt lo st mu) (kf : ¬ (0 ≤ x) → AW X V Sh nL (pc + 3) lo st mu) : AW X V Sh nL pc lo (.int x :: st) mu := fun H locs ls hP hS hl => lv_if_ge B.1.1 B.1.2.1 hd ht (fun q => kt q H locs ls hP hS hl) (fun q => kf q H locs ls hP hS hl)
theorem a_if_gt (B : CX X l R own cc Ts nL V Sh) {x : Int32} {off : Int} {tgt : Nat} (hd : decode cc pc = .ok (.ifCond .gt off, 3)) (ht : (pc : Int) + off = (tgt : Int)) (kt : 0 < x → AW X V Sh nL tgt lo st mu) (kf : ¬ (0 < x) → AW X V Sh nL (pc + 3) lo st mu) : AW X V Sh nL pc lo (.int x :: st) mu := fun H locs ls hP hS hl => lv_if_gt B.1.1 B.1.2.1 hd ht (fun q => kt q H locs ls hP hS hl) (fun q => kf q H locs ls hP hS hl)
theorem a_if_le (B : CX X l R own cc Ts nL V Sh) {x : Int32} {off : Int} {tgt : Nat} (hd : decode cc pc = .ok (.ifCond .le off, 3)) (ht : (pc : Int) + off = (tgt : Int)) (kt : x ≤ 0 → AW X V Sh nL tgt lo st mu) (kf : ¬ (x ≤ 0) → AW X V Sh nL (pc + 3) lo st mu) : AW X V Sh nL pc lo (.int x :: st) mu := fun H locs ls hP hS hl => lv_if_le B.1.1 B.1.2.1 hd ht (fun q => kt q H locs ls hP hS hl) (fun q => kf q H locs ls hP hS hl)
theorem a_if_eq_t (B : CX X l R own cc Ts nL V Sh) {x : Int32} {off : Int} {tgt : Nat} (hd : decode cc pc = .ok (.ifCond .eq off, 3)) (ht : (pc : Int) + off = (tgt : Int)) (h : x = 0) (kt : AW X V Sh nL tgt lo st mu) : AW X V Sh nL pc lo (.int x :: st) mu := a_if_eq B hd ht (fun _ => kt) (fun q => absurd h q)
theorem a_if_eq_f (B : CX X l R own cc Ts nL V Sh) {x : Int32} {off : Int} {tgt : Nat} (hd : decode cc pc = .ok (.ifCond .eq off, 3)) (ht : (pc : Int) + off = (tgt : Int)) (h : ¬ (x = 0)) (kf : AW X V Sh nL (pc + 3) lo st mu) : AW X V Sh nL pc lo (.int x :: st) mu := a_if_eq B hd ht (fun q => absurd q h) (fun _ => kf)
theorem a_if_ne_t (B : CX X l R own cc Ts nL V Sh) {x : Int32} {off : Int} {tgt : Nat} (hd : decode cc pc = .ok (.ifCond .ne off, 3)) (ht : (pc : Int) + off = (tgt : Int)) (h : ¬ x = 0) (kt : AW X V Sh nL tgt lo st mu) : AW X V Sh nL pc lo (.int x :: st) mu := a_if_ne B hd ht (fun _ => kt) (fun q => absurd q h)
theorem a_if_ne_f (B : CX X l R own cc Ts nL V Sh) {x : Int32} {off : Int} {tgt : Nat} (hd : decode cc pc = .ok (.ifCond .ne off, 3)) (ht : (pc : Int) + off = (tgt : Int)) (h : x = 0) (kf : AW X V Sh nL (pc + 3) lo st mu) : AW X V Sh nL pc lo (.int x :: st) mu := a_if_ne B hd ht (fun q => absurd h q) (fun _ => kf)
theorem a_if_lt_t (B : CX X l R own cc Ts nL V Sh) {x : Int32} {off : Int} {tgt : Nat} (hd : decode cc pc = .ok (.ifCond .lt off, 3)) (ht : (pc : Int) + off = (tgt : Int)) (h : x < 0) (kt : AW X V Sh nL tgt lo st mu) : AW X V Sh nL pc lo (.int x :: st) mu := a_if_lt B hd ht (fun _ => kt) (fun q => absurd h q)
theorem a_if_lt_f (B : CX X l R own cc Ts nL V Sh) {x : Int32} {off : Int} {tgt : Nat} (hd : decode cc pc = .ok (.ifCond .lt off, 3)) (ht : (pc : Int) + off = (tgt : Int)) (h : ¬ (x < 0)) (kf : AW X V Sh nL (pc + 3) lo st mu) : AW X V Sh nL pc lo (.int x :: st) mu := a_if_lt B hd ht (fun q => absurd q h) (fun _ => kf)
theorem a_if_ge_t (B : CX X l R own cc Ts nL V Sh) {x : Int32} {off : Int} {tgt : Nat} (hd : decode cc pc = .ok (.ifCond .ge off, 3)) (ht : (pc : Int) + off = (tgt : Int)) (h : 0 ≤ x) (kt : AW X V Sh nL tgt lo st mu) : AW X V Sh nL pc lo (.int x :: st) mu := a_if_ge B hd ht (fun _ => kt) (fun q => absurd h q)
theorem a_if_ge_f (B : CX X l R own cc Ts nL V Sh) {x : Int32} {off : Int} {tgt : Nat} (hd : decode cc pc = .ok (.ifCond .ge off, 3)) (ht : (pc : Int) + off = (tgt : Int)) (h : ¬ (0 ≤ x)) (kf : AW X V Sh nL (pc + 3) lo st mu) : AW X V Sh nL pc lo (.int x :: st) mu := a_if_ge B hd ht (fun q => absurd q h) (fun _ => kf)
theorem a_if_gt_t (B : CX X l R own cc Ts nL V Sh) {x : Int32} {off : Int} {tgt : Nat} (hd : decode cc pc = .ok (.ifCond .gt off, 3)) (ht : (pc : Int) + off = (tgt : Int)) (h : 0 < x) (kt : AW X V Sh nL tgt lo st mu) : AW X V Sh nL pc lo (.int x :: st) mu := a_if_gt B hd ht (fun _ => kt) (fun q => absurd h q)
theorem a_if_gt_f (B : CX X l R own cc Ts nL V Sh) {x : Int32} {off : Int} {tgt : Nat} (hd : decode cc pc = .ok (.ifCond .gt off, 3)) (ht : (pc : Int) + off = (tgt : Int)) (h : ¬ (0 < x)) (kf : AW X V Sh nL (pc + 3) lo st mu) : AW X V Sh nL pc lo (.int x :: st) mu := a_if_gt B hd ht (fun q => absurd q h) (fun _ => kf)
theorem a_if_le_t (B : CX X l R own cc Ts nL V Sh) {x : Int32} {off : Int} {tgt : Nat} (hd : decode cc pc = .ok (.ifCond .le off, 3)) (ht : (pc : Int) + off = (tgt : Int)) (h : x ≤ 0) (kt : AW X V Sh nL tgt lo st mu) : AW X V Sh nL pc lo (.int x :: st) mu := a_if_le B hd ht (fun _ => kt) (fun q => absurd h q)
theorem a_if_le_f (B : CX X l R own cc Ts nL V Sh) {x : Int32} {off : Int} {tgt : Nat} (hd : decode cc pc = .ok (.ifCond .le off, 3)) (ht : (pc : Int) + off = (tgt : Int)) (h : ¬ (x ≤ 0)) (kf : AW X V Sh nL (pc + 3) lo st mu) : AW X V Sh nL pc lo (.int x :: st) mu := a_if_le B hd ht (fun q => absurd q h) (fun _ => kf)
theorem a_icmp_eq (B : CX X l R own cc Ts nL V Sh) {x y : Int32} {off : Int} {tgt : Nat} (hd : decode cc pc = .ok (.if_icmp .eq off, 3)) (ht : (pc : Int) + off = (tgt : Int)) (kt : x = y → AW X V Sh nL tgt lo st mu) (kf : ¬ (x = y) → AW X V Sh nL (pc + 3) lo st mu) : AW X V Sh nL pc lo (.int y :: .int x :: st) mu := fun H locs ls hP hS hl => lv_icmp_eq B.1.1 B.1.2.1 hd ht (fun q => kt q H locs ls hP hS hl) (fun q => kf q H locs ls hP hS hl)
theorem a_icmp_ne (B : CX X l R own cc Ts nL V Sh) {x y : Int32} {off : Int} {tgt : Nat} (hd : decode cc pc = .ok (.if_icmp .ne off, 3)) (ht : (pc : Int) + off = (tgt : Int)) (kt : ¬ x = y → AW X V Sh nL tgt lo st mu) (kf : x = y → AW X V Sh nL (pc + 3) lo st mu) : AW X V Sh nL pc lo (.int y :: .int x :: st) mu := fun H locs ls hP hS hl => lv_icmp_ne B.1.1 B.1.2.1 hd ht (fun q => kt q H locs ls hP hS hl) (fun q => kf q H locs ls hP hS hl)
theorem a_icmp_lt (B : CX X l R own cc Ts nL V Sh) {x y : Int32} {off : Int} {tgt : Nat} (hd : decode cc pc = .ok (.if_icmp .lt off, 3)) (ht : (pc : Int) + off = (tgt : Int)) (kt : x < y → AW X V Sh nL tgt lo st mu) (kf : ¬ (x < y) → AW X V Sh nL (pc + 3) lo st mu) : AW X V Sh nL pc lo (.int y :: .int x :: st) mu := fun H locs ls hP hS hl => lv_icmp_lt B.1.1 B.1.2.1 hd ht (fun q => kt q H locs ls hP hS hl) (fun q => kf q H locs ls hP hS hl)
theorem a_icmp_ge (B : CX X l R own cc Ts nL V Sh) {x y : Int32} {off : Int} {tgt : Nat} (hd : decode cc pc = .ok (.if_icmp .ge off, 3)) (ht : (pc : Int) + off = (tgt : Int)) (kt : y ≤ x → AW X V Sh nL tgt lo st mu) (kf : ¬ (y ≤ x) → AW X V Sh nL (pc + 3) lo st mu) : AW X V Sh nL pc lo (.int y :: .int x :: st) mu := fun H locs ls hP hS hl => lv_icmp_ge B.1.1 B.1.2.1 hd ht (fun q => kt q H locs ls hP hS hl) (fun q => kf q H locs ls hP hS hl)
theorem a_icmp_gt (B : CX X l R own cc Ts nL V Sh) {x y : Int32} {off : Int} {tgt : Nat} (hd : decode cc pc = .ok (.if_icmp .gt off, 3)) (ht : (pc : Int) + off = (tgt : Int)) (kt : y < x → AW X V Sh nL tgt lo st mu) (kf : ¬ (y < x) → AW X V Sh nL (pc + 3) lo st mu) : AW X V Sh nL pc lo (.int y :: .int x :: st) mu := fun H locs ls hP hS hl => lv_icmp_gt B.1.1 B.1.2.1 hd ht (fun q => kt q H locs ls hP hS hl) (fun q => kf q H locs ls hP hS hl)
theorem a_icmp_le (B : CX X l R own cc Ts nL V Sh) {x y : Int32} {off : Int} {tgt : Nat} (hd : decode cc pc = .ok (.if_icmp .le off, 3)) (ht : (pc : Int) + off = (tgt : Int)) (kt : x ≤ y → AW X V Sh nL tgt lo st mu) (kf : ¬ (x ≤ y) → AW X V Sh nL (pc + 3) lo st mu) : AW X V Sh nL pc lo (.int y :: .int x :: st) mu := fun H locs ls hP hS hl => lv_icmp_le B.1.1 B.1.2.1 hd ht (fun q => kt q H locs ls hP hS hl) (fun q => kf q H locs ls hP hS hl)
theorem a_icmp_eq_t (B : CX X l R own cc Ts nL V Sh) {x y : Int32} {off : Int} {tgt : Nat} (hd : decode cc pc = .ok (.if_icmp .eq off, 3)) (ht : (pc : Int) + off = (tgt : Int)) (h : x = y) (kt : AW X V Sh nL tgt lo st mu) : AW X V Sh nL pc lo (.int y :: .int x :: st) mu := a_icmp_eq B hd ht (fun _ => kt) (fun q => absurd h q)
theorem a_icmp_eq_f (B : CX X l R own cc Ts nL V Sh) {x y : Int32} {off : Int} {tgt : Nat} (hd : decode cc pc = .ok (.if_icmp .eq off, 3)) (ht : (pc : Int) + off = (tgt : Int)) (h : ¬ (x = y)) (kf : AW X V Sh nL (pc + 3) lo st mu) : AW X V Sh nL pc lo (.int y :: .int x :: st) mu := a_icmp_eq B hd ht (fun q => absurd q h) (fun _ => kf)
theorem a_icmp_ne_t (B : CX X l R own cc Ts nL V Sh) {x y : Int32} {off : Int} {tgt : Nat} (hd : decode cc pc = .ok (.if_icmp .ne off, 3)) (ht : (pc : Int) + off = (tgt : Int)) (h : ¬ x = y) (kt : AW X V Sh nL tgt lo st mu) : AW X V Sh nL pc lo (.int y :: .int x :: st) mu := a_icmp_ne B hd ht (fun _ => kt) (fun q => absurd q h)
theorem a_icmp_ne_f (B : CX X l R own cc Ts nL V Sh) {x y : Int32} {off : Int} {tgt : Nat} (hd : decode cc pc = .ok (.if_icmp .ne off, 3)) (ht : (pc : Int) + off = (tgt : Int)) (h : x = y) (kf : AW X V Sh nL (pc + 3) lo st mu) : AW X V Sh nL pc lo (.int y :: .int x :: st) mu := a_icmp_ne B hd ht (fun q => absurd h q) (fun _ => kf)
theorem a_icmp_lt_t (B : CX X l R own cc Ts nL V Sh) {x y : Int32} {off : Int} {tgt : Nat} (hd : decode cc pc = .ok (.if_icmp .lt off, 3)) (ht : (pc : Int) + off = (tgt : Int)) (h : x < y) (kt : AW X V Sh nL tgt lo st mu) : AW X V Sh nL pc lo (.int y :: .int x :: st) mu := a_icmp_lt B hd ht (fun _ => kt) (fun q => absurd h q)
theorem a_icmp_lt_f (B : CX X l R own cc Ts nL V Sh) {x y : Int32} {off : Int} {tgt : Nat} (hd : decode cc pc = .ok (.if_icmp .lt off, 3)) (ht : (pc : Int) + off = (tgt : Int)) (h : ¬ (x < y)) (kf : AW X V Sh nL (pc + 3) lo st mu) : AW X V Sh nL pc lo (.int y :: .int x :: st) mu := a_icmp_lt B hd ht (fun q => absurd q h) (fun _ => kf)
theorem a_icmp_ge_t (B : CX X l R own cc Ts nL V Sh) {x y : Int32} {off : Int} {tgt : Nat} (hd : decode cc pc = .ok (.if_icmp .ge off, 3)) (ht : (pc : Int) + off = (tgt : Int)) (h : y ≤ x) (kt : AW X V Sh nL tgt lo st mu) : AW X V Sh nL pc lo (.int y :: .int x :: st) mu := a_icmp_ge B hd ht (fun _ => kt) (fun q => absurd h q)
theorem a_icmp_ge_f (B : CX X l R own cc Ts nL V Sh) {x y : Int32} {off : Int} {tgt : Nat} (hd : decode cc pc = .ok (.if_icmp .ge off, 3)) (ht : (pc : Int) + off = (tgt : Int)) (h : ¬ (y ≤ x)) (kf : AW X V Sh nL (pc + 3) lo st mu) : AW X V Sh nL pc lo (.int y :: .int x :: st) mu := a_icmp_ge B hd ht (fun q => absurd q h) (fun _ => kf)
theorem a_icmp_gt_t (B : CX X l R own cc Ts nL V Sh) {x y : Int32} {off : Int} {tgt : Nat} (hd : decode cc pc = .ok (.if_icmp .gt off, 3)) (ht : (pc : Int) + off = (tgt : Int)) (h : y < x) (kt : AW X V Sh nL tgt lo st mu) : AW X V Sh nL pc lo (.int y :: .int x :: st) mu := a_icmp_gt B hd ht (fun _ => kt) (fun q => absurd h q)
theorem a_icmp_gt_f (B : CX X l R own cc Ts nL V Sh) {x y : Int32} {off : Int} {tgt : Nat} (hd : decode cc pc = .ok (.if_icmp .gt off, 3)) (ht : (pc : Int) + off = (tgt : Int)) (h : ¬ (y < x)) (kf : AW X V Sh nL (pc + 3) lo st mu) : AW X V Sh nL pc lo (.int y :: .int x :: st) mu := a_icmp_gt B hd ht (fun q => absurd q h) (fun _ => kf)
theorem a_icmp_le_t (B : CX X l R own cc Ts nL V Sh) {x y : Int32} {off : Int} {tgt : Nat} (hd : decode cc pc = .ok (.if_icmp .le off, 3)) (ht : (pc : Int) + off = (tgt : Int)) (h : x ≤ y) (kt : AW X V Sh nL tgt lo st mu) : AW X V Sh nL pc lo (.int y :: .int x :: st) mu := a_icmp_le B hd ht (fun _ => kt) (fun q => absurd h q)
theorem a_icmp_le_f (B : CX X l R own cc Ts nL V Sh) {x y : Int32} {off : Int} {tgt : Nat} (hd : decode cc pc = .ok (.if_icmp .le off, 3)) (ht : (pc : Int) + off = (tgt : Int)) (h : ¬ (x ≤ y)) (kf : AW X V Sh nL (pc + 3) lo st mu) : AW X V Sh nL pc lo (.int y :: .int x :: st) mu := a_icmp_le B hd ht (fun q => absurd q h) (fun _ => kf)
theorem a_goto (B : CX X l R own cc Ts nL V Sh) {off : Int} {tgt : Nat} (hd : decode cc pc = .ok (.goto off, 3)) (ht : (pc : Int) + off = (tgt : Int)) (k : AW X V Sh nL tgt lo st mu) : AW X V Sh nL pc lo st mu := fun H locs ls hP hS hl => lv_goto B.1.1 B.1.2.1 hd ht (k H locs ls hP hS hl)
theorem a_tableIn (B : CX X l R own cc Ts nL V Sh) {dflt lw hi : Int} {offs : Array Int} {len : Nat} {x : Int32} {off : Int} {tgt : Nat} (hd : decode cc pc = .ok (.tableswitch dflt lw hi offs, len)) (h1 : ¬ x.toInt < lw) (h2 : ¬ hi < x.toInt) (ho : offs[(x.toInt - lw).toNat]? = some off) (ht : (pc : Int) + off = (tgt : Int)) (k : AW X V Sh nL tgt lo st mu) : AW X V Sh nL pc lo (.int x :: st) mu := fun H locs ls hP hS hl => lv_tableIn B.1.1 B.1.2.1 hd h1 h2 ho ht (k H locs ls hP hS hl)
theorem a_tableOut (B : CX X l R own cc Ts nL V Sh) {dflt lw hi : Int} {offs : Array Int} {len : Nat} {x : Int32} {tgt : Nat} (hd : decode cc pc = .ok (.tableswitch dflt lw hi offs, len)) (h : x.toInt < lw ∨ hi < x.toInt) (ht : (pc : Int) + dflt = (tgt : Int)) (k : AW X V Sh nL tgt lo st mu) : AW X V Sh nL pc lo (.int x :: st) mu := fun H locs ls hP hS hl => lv_tableOut B.1.1 B.1.2.1 hd h ht (k H locs ls hP hS hl)
theorem a_ldc (B : CX X l R own cc Ts nL V Sh) {index : Nat} {v : Int32} (hc : Cond.constant own index v ∈ Ts) (hd : decode cc pc = .ok (.ldc index, 2)) (k : AW X V Sh nL (pc + 2) lo (.int v :: st) mu) : AW X V Sh nL pc lo st mu := fun H locs ls hP hS hl => lv_ldc B.1.1 B.1.2.1 B.1.2.2.2.1 (B.1.2.2.2.2 _ hc) hd (k H locs ls hP hS hl)
theorem a_ldcw (B : CX X l R own cc Ts nL V Sh) {index : Nat} {v : Int32} (hc : Cond.constant own index v ∈ Ts) (hd : decode cc pc = .ok (.ldc_w index, 3)) (k : AW X V Sh nL (pc + 3) lo (.int v :: st) mu) : AW X V Sh nL pc lo st mu := fun H locs ls hP hS hl => lv_ldcw B.1.1 B.1.2.1 B.1.2.2.2.1 (B.1.2.2.2.2 _ hc) hd (k H locs ls hP hS hl)
theorem a_ldc2 (B : CX X l R own cc Ts nL V Sh) {index : Nat} {v : Int64} (hc : Cond.constantLong own index v ∈ Ts) (hd : decode cc pc = .ok (.ldc2_w index, 3)) (k : AW X V Sh nL (pc + 3) lo (.long v :: st) mu) : AW X V Sh nL pc lo st mu := fun H locs ls hP hS hl => lv_ldc2 B.1.1 B.1.2.1 B.1.2.2.2.1 (B.1.2.2.2.2 _ hc) hd (k H locs ls hP hS hl)
/-- a field's link: class, place -/
def FL (own : String) (Ts : List Cond) (index ci k : Nat) : Prop := ∃ (C : String) (T : u_T) (N : Nat), vwCl[ci]? = some (C, T, N) ∧ k < N ∧ (∀ w ∈ u_ws C T N, w ∈ Ts) ∧ Cond.fieldLink own index (T k).1 (T k).2.1 (T k).2.2.1 ∈ Ts
def FP (own : String) (Ts : List Cond) (index ci k : Nat) (ty : FieldType) : Prop := ∃ (C : String) (T : u_T) (N : Nat) (ty0 : Nat → FieldType), vwCl[ci]? = some (C, T, N) ∧ k < N ∧ (∀ w ∈ u_ws C T N, w ∈ Ts) ∧ Cond.fieldLink own index (T k).1 (T k).2.1 (T k).2.2.1 ∈ Ts ∧ (∀ k, k < N → parseFieldDescriptor (T k).2.2.1 = some (ty0 k)) ∧ (∀ a, a < N → ∀ b, b < N → a ≠ b → (T a).2.1 ≠ (T b).2.1) ∧ (T k).2.2.2 = false ∧ ty0 k = ty
theorem a_getr (B : CX X l R own cc Ts nL V Sh) {index ci k q : Nat} {fs : List (Option Nat)} {r : Nat} (F : FL own Ts index ci k) (hs : Sh[q]? = some (.inl (ci, fs))) (hf : fs[k]? = some (some r)) (hd : decode cc pc = .ok (.getfield index, 3)) (kk : AW X V Sh nL (pc + 3) lo (.ref (aL V r) :: st) mu) : AW X V Sh nL pc lo (.ref (aL V q) :: st) mu := fun H locs ls hP hS hl => by
  obtain ⟨C, T, N, hc, hk, hin, hlink⟩ := F
  exact va_get (D := V.1) (ci := ci) (v := .ref (aL V r)) B.1.1 B.1.2.1 B.1.2.2.2.2 hin B.1.2.2.2.1 B.2.1 hP q (ab_get hs) hc k hk (B.1.2.2.2.2 _ hlink) (fun _ h => h) (by rw [List.getElem?_mapIdx, hf]; rfl) hd (kk H locs ls hP hS hl)
theorem a_geti (B : CX X l R own cc Ts nL V Sh) {index ci k q : Nat} {fs : List (Option Nat)}  (F : FL own Ts index ci k) (hs : Sh[q]? = some (.inl (ci, fs))) (hf : fs[k]? = some (none)) (hd : decode cc pc = .ok (.getfield index, 3)) (kk : AW X V Sh nL (pc + 3) lo (.int (mu q k) :: st) mu) : AW X V Sh nL pc lo (.ref (aL V q) :: st) mu := fun H locs ls hP hS hl => by
  obtain ⟨C, T, N, hc, hk, hin, hlink⟩ := F
  exact va_get (D := V.1) (ci := ci) (v := .int (mu q k)) B.1.1 B.1.2.1 B.1.2.2.2.2 hin B.1.2.2.2.1 B.2.1 hP q (ab_get hs) hc k hk (B.1.2.2.2.2 _ hlink) (fun _ h => h) (by rw [List.getElem?_mapIdx, hf]; rfl) hd (kk H locs ls hP hS hl)
theorem a_put (B : CX X l R own cc Ts nL V Sh) {index ci k q : Nat} {fs : List (Option Nat)} {ty : FieldType} {x : Int32} (F : FP own Ts index ci k ty) (hs : Sh[q]? = some (.inl (ci, fs))) (hf : fs[k]? = some none) (hn : narrow ty (.int x) = .int x) (hfit : fits ty (.int x) = true) (hd : decode cc pc = .ok (.putfield index, 3)) (kk : AW X V Sh nL (pc + 3) lo st (ab_up mu q k x)) : AW X V Sh nL pc lo (.int x :: .ref (aL V q) :: st) mu := fun H locs ls hP hS hl => by
  obtain ⟨C, T, N, ty0, hc, hk, hin, hlink, hty, hnm, hfin, rfl⟩ := F
  refine va_put (D := V.1) (ci := ci) (v := .int x) B.1.1 B.1.2.1 B.1.2.2.2.2 hin ty0 hty hnm B.1.2.2.2.1 B.2.1 hP (ab_D B.2.2.1 mu) hS q (ab_get hs) hc k hk (B.1.2.2.2.2 _ hlink) (fun _ h => h) hfin (hty k hk) hn hfit (by simpa using (List.getElem?_eq_some_iff.mp hf).1) hd (fun H1 locs1 hP1 _ hS1 => ?_)
  rw [ab_cell_obj hf, ab_set hs ab_up_ne] at hP1
  exact kk H1 locs1 ls hP1 hS1 hl
theorem a_iald (B : CX X l R own cc Ts nL V Sh) {q n : Nat} {i : Int32} (hs : Sh[q]? = some (.inr (.inl (0, n)))) (hin : vp_in i n) (hd : decode cc pc = .ok (.iaload, 1)) (kk : AW X V Sh nL (pc + 1) lo (.int (mu q i.toNatClampNeg) :: st) mu) : AW X V Sh nL pc lo (.int i :: .ref (aL V q) :: st) mu := fun H locs ls hP hS hl =>
  va_iald (D := V.1) B.1.1 B.1.2.1 B.2.1 hP q 0 (ab_get hs) rfl hin hd (kk H locs ls hP hS hl)
theorem a_ialdN (B : CX X l R own cc Ts nL V Sh) {q n : Nat} {i : Int32} (j : Nat) (hs : Sh[q]? = some (.inr (.inl (0, n)))) (hi : i = nI j) (hj : j < n) (hn : n < 2 ^ 31) (hd : decode cc pc = .ok (.iaload, 1)) (kk : AW X V Sh nL (pc + 1) lo (.int (mu q j) :: st) mu) : AW X V Sh nL pc lo (.int i :: .ref (aL V q) :: st) mu :=
  a_iald B hs (by rw [hi]; exact vp_in_nI hj hn) hd (by rw [hi, nI_clamp (Nat.lt_trans hj hn)]; exact kk)
theorem a_zald (B : CX X l R own cc Ts nL V Sh) {q n : Nat} {i : Int32} (hs : Sh[q]? = some (.inr (.inl (1, n)))) (hin : vp_in i n) (hd : decode cc pc = .ok (.baload, 1)) (kk : AW X V Sh nL (pc + 1) lo (.int (mu q i.toNatClampNeg) :: st) mu) : AW X V Sh nL pc lo (.int i :: .ref (aL V q) :: st) mu := fun H locs ls hP hS hl =>
  va_zald (D := V.1) B.1.1 B.1.2.1 B.2.1 hP q 1 (ab_get hs) rfl hin hd (kk H locs ls hP hS hl)
theorem a_zaldN (B : CX X l R own cc Ts nL V Sh) {q n : Nat} {i : Int32} (j : Nat) (hs : Sh[q]? = some (.inr (.inl (1, n)))) (hi : i = nI j) (hj : j < n) (hn : n < 2 ^ 31) (hd : decode cc pc = .ok (.baload, 1)) (kk : AW X V Sh nL (pc + 1) lo (.int (mu q j) :: st) mu) : AW X V Sh nL pc lo (.int i :: .ref (aL V q) :: st) mu :=
  a_zald B hs (by rw [hi]; exact vp_in_nI hj hn) hd (by rw [hi, nI_clamp (Nat.lt_trans hj hn)]; exact kk)
theorem a_iast (B : CX X l R own cc Ts nL V Sh) {q n : Nat} {i x : Int32} (hs : Sh[q]? = some (.inr (.inl (0, n)))) (hin : vp_in i n) (hd : decode cc pc = .ok (.iastore, 1)) (kk : AW X V Sh nL (pc + 1) lo st (ab_up mu q i.toNatClampNeg x)) : AW X V Sh nL pc lo (.int x :: .int i :: .ref (aL V q) :: st) mu := fun H locs ls hP hS hl => by
  refine va_iast (D := V.1) B.1.1 B.1.2.1 B.2.1 hP (ab_D B.2.2.1 mu) hS q 0 (ab_get hs) rfl hin hd (fun H1 locs1 hP1 _ hS1 => ?_)
  rw [ab_cell_arr, ab_set hs ab_up_ne] at hP1
  exact kk H1 locs1 ls hP1 hS1 hl
theorem a_iastN (B : CX X l R own cc Ts nL V Sh) {q n : Nat} {i x : Int32} (j : Nat) (hs : Sh[q]? = some (.inr (.inl (0, n)))) (hi : i = nI j) (hj : j < n) (hn : n < 2 ^ 31) (hd : decode cc pc = .ok (.iastore, 1)) (kk : AW X V Sh nL (pc + 1) lo st (ab_up mu q j x)) : AW X V Sh nL pc lo (.int x :: .int i :: .ref (aL V q) :: st) mu :=
  a_iast B hs (by rw [hi]; exact vp_in_nI hj hn) hd (by rw [hi, nI_clamp (Nat.lt_trans hj hn)]; exact kk)
theorem a_zast (B : CX X l R own cc Ts nL V Sh) {q n : Nat} {i x : Int32} (hs : Sh[q]? = some (.inr (.inl (1, n)))) (hin : vp_in i n) (hd : decode cc pc = .ok (.bastore, 1)) (kk : AW X V Sh nL (pc + 1) lo st (ab_up mu q i.toNatClampNeg (vp_nar .boolean x))) : AW X V Sh nL pc lo (.int x :: .int i :: .ref (aL V q) :: st) mu := fun H locs ls hP hS hl => by
  refine va_zast (D := V.1) B.1.1 B.1.2.1 B.2.1 hP (ab_D B.2.2.1 mu) hS q 1 (ab_get hs) rfl hin hd (fun H1 locs1 hP1 _ hS1 => ?_)
  rw [ab_cell_arr, ab_set hs ab_up_ne] at hP1
  exact kk H1 locs1 ls hP1 hS1 hl
theorem a_zastN (B : CX X l R own cc Ts nL V Sh) {q n : Nat} {i x : Int32} (j : Nat) (hs : Sh[q]? = some (.inr (.inl (1, n)))) (hi : i = nI j) (hj : j < n) (hn : n < 2 ^ 31) (hx : vp_nar .boolean x = x) (hd : decode cc pc = .ok (.bastore, 1)) (kk : AW X V Sh nL (pc + 1) lo st (ab_up mu q j x)) : AW X V Sh nL pc lo (.int x :: .int i :: .ref (aL V q) :: st) mu :=
  a_zast B hs (by rw [hi]; exact vp_in_nI hj hn) hd (by rw [hi, nI_clamp (Nat.lt_trans hj hn), hx]; exact kk)
theorem a_aald (B : CX X l R own cc Ts nL V Sh) {q t r : Nat} {els : List Nat} {C : String} {i : Int32} (j : Nat) (hs : Sh[q]? = some (.inr (.inr (t, els)))) (ht : (ab_tys V)[t]? = some (V.2.1 t, .object C)) (hi : i = nI j) (hj : els[j]? = some r) (hn : els.length < 2 ^ 31) (hd : decode cc pc = .ok (.aaload, 1)) (kk : AW X V Sh nL (pc + 1) lo (.ref (aL V r) :: st) mu) : AW X V Sh nL pc lo (.int i :: .ref (aL V q) :: st) mu := fun H locs ls hP hS hl => by
  have hjl := (List.getElem?_eq_some_iff.mp hj).1
  refine va_aldq (D := V.1) B.1.1 B.1.2.1 B.2.1 hP q t (ab_get hs) ht (by rw [hi]; exact vp_in_nI hjl hn) hd ?_
  rw [hi, nI_clamp (Nat.lt_trans hjl hn), hj]
  exact kk H locs ls hP hS hl
theorem a_ireturn (B : CX X l R own cc Ts nL V Sh) {v : Int32} {P : Int32 → ab_mem → Prop} (E : RX X V Sh (some .int) (pI P)) (hd : decode cc pc = .ok (.ireturn, 1)) (hv : P v mu) : AW X V Sh nL pc lo [.int v] mu := fun H locs ls hP hS hl => by
  rw [E.2]
  exact W.iret B.1.1 B.1.2.1 E.1 (fun t ht _ => ⟨⟨_, mu, rfl, ⟨v, rfl, hv⟩, by rw [ht]; exact hP⟩, hS.F ht⟩) hS.2.2 hd B.2.2.2.2.1
theorem a_zreturn (B : CX X l R own cc Ts nL V Sh) {v : Int32} {P : Int32 → ab_mem → Prop} (E : RX X V Sh (some .boolean) (pI P)) (hd : decode cc pc = .ok (.ireturn, 1)) (hn : narrow .boolean (.int v) = .int v) (hv : P v mu) : AW X V Sh nL pc lo [.int v] mu := fun H locs ls hP hS hl => by
  rw [E.2]
  exact W.zret B.1.1 B.1.2.1 E.1 hn (fun t ht _ => ⟨⟨_, mu, rfl, ⟨v, rfl, hv⟩, by rw [ht]; exact hP⟩, hS.F ht⟩) hS.2.2 hd B.2.2.2.2.1
theorem a_lreturn (B : CX X l R own cc Ts nL V Sh) {v : Int64} {P : Int64 → ab_mem → Prop} (E : RX X V Sh (some .long) (pL P)) (hd : decode cc pc = .ok (.lreturn, 1)) (hv : P v mu) : AW X V Sh nL pc lo [.long v] mu := fun H locs ls hP hS hl => by
  rw [E.2]
  exact W.lret B.1.1 B.1.2.1 E.1 (fun t ht _ => ⟨⟨_, mu, rfl, ⟨v, rfl, hv⟩, by rw [ht]; exact hP⟩, hS.F ht⟩) hS.2.2 hd B.2.2.2.2.1
theorem a_areturn (B : CX X l R own cc Ts nL V Sh) {C : String} {v : Nat} {P : Nat → ab_mem → Prop} (E : RX X V Sh (some (.object C)) (pR P)) (hd : decode cc pc = .ok (.areturn, 1)) (hv : P v mu) : AW X V Sh nL pc lo [.ref v] mu := fun H locs ls hP hS hl => by
  rw [E.2]
  exact W.aret B.1.1 B.1.2.1 E.1 (Or.inl ⟨_, rfl⟩) (Or.inr ⟨_, rfl⟩) (fun t ht _ => ⟨⟨_, mu, rfl, ⟨v, rfl, hv⟩, by rw [ht]; exact hP⟩, hS.F ht⟩) hS.2.2 hd B.2.2.2.2.1
theorem a_return (B : CX X l R own cc Ts nL V Sh) {P : ab_mem → Prop} (E : RX X V Sh none (pV P)) (hd : decode cc pc = .ok (.return_, 1)) (hv : P mu) : AW X V Sh nL pc lo [] mu := fun H locs ls hP hS hl => by
  rw [E.2]
  exact W.vret B.1.1 B.1.2.1 E.1 (fun t ht _ => ⟨⟨_, mu, rfl, ⟨rfl, hv⟩, by rw [ht]; exact hP⟩, hS.F ht⟩) hS.2.2 hd B.2.2.2.2.1
theorem ab_blind {V : ab_V} {Sh : List ab_kd} (h : ab_OK V Sh) (As : List Value) (mu : ab_mem) : FrameBlind (ab_Pc V Sh As mu) := fun a U g mk q => ⟨q.1, q.2.1, va_K.moved (u := U) (U := U.calling g mk a) (Vm.Alike.refl U.vm) q.2.2.1, h.2.2 U g mk a q.2.2.2⟩
def KV (own : String) (Ts : List Cond) (R : Room) (index : Nat) (C : String) (y : MethodName) (ws : List Cond) (rm : Room) (n : Nat) : Prop := ∃ (bytes : ByteArray) (maxL : Nat) (ret : Option FieldType) (ws' : List Cond), GoodIn Ts (wsV own index C y ws) ∧ ws = Cond.code y bytes maxL ret :: ws' ∧ rm.cells = 0 ∧ rm.slots = 0 ∧ (y.cls = C ∧ y.cls ≠ "java/lang/invoke/MethodHandle" ∧ y.cls ≠ "java/lang/invoke/VarHandle" ∧ (parseMethodDescriptor y.desc).map (fun d => d.parameters.length) = some n) ∧ (rm.frames + 1 ≤ R.frames ∧ 8 + (maxL + 11) + rm.locals ≤ R.locals)
def KS (own : String) (Ts : List Cond) (R : Room) (index : Nat) (y : MethodName) (ws : List Cond) (rm : Room) (n : Nat) : Prop := ∃ (bytes : ByteArray) (maxL : Nat) (ret : Option FieldType) (ws' : List Cond), GoodIn Ts (va_wsS own index y ws) ∧ ws = Cond.code y bytes maxL ret :: ws' ∧ rm.cells = 0 ∧ rm.slots = 0 ∧ (y.cls ≠ "java/lang/invoke/MethodHandle" ∧ y.cls ≠ "java/lang/invoke/VarHandle" ∧ (parseMethodDescriptor y.desc).map (fun d => d.parameters.length) = some n) ∧ (rm.frames + 1 ≤ R.frames ∧ 8 + (maxL + 11) + rm.locals ≤ R.locals)
def KN (own : String) (Ts : List Cond) (R : Room) (y : MethodName) (ws : List Cond) (rm : Room) (n : Nat) : Prop := ∃ (bytes : ByteArray) (maxL : Nat) (ret : Option FieldType) (ws' : List Cond), GoodIn Ts ws ∧ Cond.static y ∈ Ts ∧ Cond.initialized y.cls ∈ Ts ∧ ws = Cond.code y bytes maxL ret :: ws' ∧ rm.cells = 0 ∧ rm.slots = 0 ∧ (y.cls ≠ "java/lang/invoke/MethodHandle" ∧ y.cls ≠ "java/lang/invoke/VarHandle" ∧ (parseMethodDescriptor y.desc).map (fun d => d.parameters.length) = some n) ∧ (rm.frames + 1 ≤ R.frames ∧ 8 + (maxL + 11) + rm.locals ≤ R.locals)
theorem ab_after {po : ab_po} {st0 rest : List Value} {a : Array Value} {H : Heap} {locs : List Loc} {ls : Array Slot} (hr : va_Run (xp X) (xl X) (xe X) (xR X) (xs X) (xm X) (xa X) (xb X) (xM X) (xc X) H locs 0 0 0 0 (F0 (xm X) pc ls st0) rest (ab_Q V Sh po a) (ab_A V Sh)) (hS : va_S (ab_A V Sh) (xs X).heap H locs) (hl : ab_LH ls nL lo) (kk : ∀ (r : Option Value) (mu' : ab_mem), po r mu' → AW X V Sh nL (pc + 3) lo (r.toList ++ rest) mu') : W (xp X) (xl X) (xe X) (xR X) (xs X) (xm X) (xa X) (xb X) (xM X) (xc X) H locs 0 0 (xQ X) (F0 (xm X) pc ls st0) := by
  intro T hT Y
  obtain ⟨v, st₀, t, T', L, h0, X', hL, e1, e2, ⟨⟨r, mu', hv, hpo, hb⟩, hz, hk⟩, stp⟩ := hr T hT Y
  cases hv
  rw [h0] at hz hk
  obtain ⟨t2, a1, b1⟩ := kk _ mu' hpo T'.heap (locs ++ L) ls (by rw [e1]; exact hb) ⟨Nat.le_trans hS.1 (by rw [e1]; exact hz), fun q h1 h2 => by rw [e1, hk q (Nat.lt_of_lt_of_le h1 hS.1) h2]; exact hS.2.1 q h1 h2, fun q hq => by
      rcases List.mem_append.mp hq with h | h
      · exact hS.2.2 q h
      · exact hL q h⟩ hl T' rfl X'
  exact ⟨t2, stp t2 a1, b1⟩
theorem ab_pre {As : List Value} {H : Heap} {locs : List Loc} (B : CX X l R own cc Ts nL V Sh) (hP : va_P V.1 vwCl (ab_wd V mu Sh) H) (hS : va_S (ab_A V Sh) (xs X).heap H locs) : ∀ U : State, U.heap = H → (xs X).WarmedH U.vm → ab_Pc V Sh As mu As.toArray U := fun U hU hW => ⟨rfl, by rw [hU]; exact hP, va_K.moved hW.alike B.2.1, B.2.2.1.2.1 _ U H locs hS hU hW B.2.2.2.1⟩
theorem a_callVi (B : CX X l R own cc Ts nL V Sh) {index q ci n N : Nat} {C : String} {T : u_T} {fs : List (Option Nat)} {y : MethodName} {ws : List Cond} {rm : Room} {As st0 rest : List Value} {P : Int32 → ab_mem → Prop} (K : KV own Ts R index C y ws rm n) (hM : CT l V Sh y ws rm (.ref (aL V q) :: As) mu (pI P)) (hs : Sh[q]? = some (.inl (ci, fs))) (hc : vwCl[ci]? = some (C, T, N)) (hn : As.length = n) (hst : st0 = As.reverse ++ .ref (aL V q) :: rest) (hrm : (rest.map fun v => v.category).sum ≤ 8) (hd : decode cc pc = .ok (.invokevirtual index, 3)) (kk : ∀ (r : Int32) (mu' : ab_mem), P r mu' → AW X V Sh nL (pc + 3) lo (.int r :: rest) mu') : AW X V Sh nL pc lo st0 mu := fun H locs ls hP hS hl => by
  obtain ⟨bytes, maxL, ret, ws', hg, hw, hrc, hrs, hdd, hR⟩ := K
  obtain ⟨rfl, rfl⟩ := B.2.2.2.2.2
  exact ab_after (va_runV (As := As) (rest := rest) (C := C) B.1 hM (cwV n B.1.2.2.2.2 hg hw hrc hrs hdd hR) ⟨ab_blind B.2.2.1 _ _, va_recv B.2.1 hP hc (ab_get hs), ab_pre B hP hS⟩ rfl hn hl.1 hst (lv_room hrm) hd ⟨Nat.zero_le _, Nat.zero_le _⟩) hS hl (fun r mu' h => by obtain ⟨v, rfl, h⟩ := h; exact kk v mu' h)
theorem a_callSi (B : CX X l R own cc Ts nL V Sh) {index n : Nat} {y : MethodName} {ws : List Cond} {rm : Room} {As st0 rest : List Value} {P : Int32 → ab_mem → Prop} (K : KS own Ts R index y ws rm n) (hM : CT l V Sh y ws rm As mu (pI P)) (hn : As.length = n) (hst : st0 = As.reverse ++ rest) (hrm : (rest.map fun v => v.category).sum ≤ 8) (hd : decode cc pc = .ok (.invokestatic index, 3)) (kk : ∀ (r : Int32) (mu' : ab_mem), P r mu' → AW X V Sh nL (pc + 3) lo (.int r :: rest) mu') : AW X V Sh nL pc lo st0 mu := fun H locs ls hP hS hl => by
  obtain ⟨bytes, maxL, ret, ws', hg, hw, hrc, hrs, hdd, hR⟩ := K
  obtain ⟨rfl, rfl⟩ := B.2.2.2.2.2
  exact ab_after (va_runS (As := As) (rest := rest) B.1 hM (va_cwS n B.1.2.2.2.2 hg hw hrc hrs hdd hR) ⟨ab_blind B.2.2.1 _ _, ab_pre B hP hS⟩ rfl hn hl.1 hst (lv_room hrm) hd ⟨Nat.zero_le _, Nat.zero_le _⟩) hS hl (fun r mu' h => by obtain ⟨v, rfl, h⟩ := h; exact kk v mu' h)
theorem a_callNi (B : CX X l R own cc Ts nL V Sh) {index n : Nat} {host : String} {y : MethodName} {ws : List Cond} {rm : Room} {As st0 rest : List Value} {P : Int32 → ab_mem → Prop} (K : KN own Ts R y ws rm n) (hN : va_Nw (.methodLinkNest own index y host) (xs X)) (hM : CT l V Sh y ws rm As mu (pI P)) (hn : As.length = n) (hst : st0 = As.reverse ++ rest) (hrm : (rest.map fun v => v.category).sum ≤ 8) (hd : decode cc pc = .ok (.invokestatic index, 3)) (kk : ∀ (r : Int32) (mu' : ab_mem), P r mu' → AW X V Sh nL (pc + 3) lo (.int r :: rest) mu') : AW X V Sh nL pc lo st0 mu := fun H locs ls hP hS hl => by
  obtain ⟨bytes, maxL, ret, ws', hg, hsy, hini, hw, hrc, hrs, hdd, hR⟩ := K
  obtain ⟨rfl, rfl⟩ := B.2.2.2.2.2
  exact ab_after (va_runSN (As := As) (rest := rest) B.1 hM ⟨va_cnB n B.1.2.2.2.2 hg hw hrc hrs hN (B.1.2.2.2.2 _ hini) hdd hR, B.1.2.2.2.2 _ hsy, trivial⟩ ⟨ab_blind B.2.2.1 _ _, ab_pre B hP hS⟩ rfl hn hl.1 hst (lv_room hrm) hd ⟨Nat.zero_le _, Nat.zero_le _⟩) hS hl (fun r mu' h => by obtain ⟨v, rfl, h⟩ := h; exact kk v mu' h)
theorem a_callVl (B : CX X l R own cc Ts nL V Sh) {index q ci n N : Nat} {C : String} {T : u_T} {fs : List (Option Nat)} {y : MethodName} {ws : List Cond} {rm : Room} {As st0 rest : List Value} {P : Int64 → ab_mem → Prop} (K : KV own Ts R index C y ws rm n) (hM : CT l V Sh y ws rm (.ref (aL V q) :: As) mu (pL P)) (hs : Sh[q]? = some (.inl (ci, fs))) (hc : vwCl[ci]? = some (C, T, N)) (hn : As.length = n) (hst : st0 = As.reverse ++ .ref (aL V q) :: rest) (hrm : (rest.map fun v => v.category).sum ≤ 8) (hd : decode cc pc = .ok (.invokevirtual index, 3)) (kk : ∀ (r : Int64) (mu' : ab_mem), P r mu' → AW X V Sh nL (pc + 3) lo (.long r :: rest) mu') : AW X V Sh nL pc lo st0 mu := fun H locs ls hP hS hl => by
  obtain ⟨bytes, maxL, ret, ws', hg, hw, hrc, hrs, hdd, hR⟩ := K
  obtain ⟨rfl, rfl⟩ := B.2.2.2.2.2
  exact ab_after (va_runV (As := As) (rest := rest) (C := C) B.1 hM (cwV n B.1.2.2.2.2 hg hw hrc hrs hdd hR) ⟨ab_blind B.2.2.1 _ _, va_recv B.2.1 hP hc (ab_get hs), ab_pre B hP hS⟩ rfl hn hl.1 hst (lv_room hrm) hd ⟨Nat.zero_le _, Nat.zero_le _⟩) hS hl (fun r mu' h => by obtain ⟨v, rfl, h⟩ := h; exact kk v mu' h)
theorem a_callSl (B : CX X l R own cc Ts nL V Sh) {index n : Nat} {y : MethodName} {ws : List Cond} {rm : Room} {As st0 rest : List Value} {P : Int64 → ab_mem → Prop} (K : KS own Ts R index y ws rm n) (hM : CT l V Sh y ws rm As mu (pL P)) (hn : As.length = n) (hst : st0 = As.reverse ++ rest) (hrm : (rest.map fun v => v.category).sum ≤ 8) (hd : decode cc pc = .ok (.invokestatic index, 3)) (kk : ∀ (r : Int64) (mu' : ab_mem), P r mu' → AW X V Sh nL (pc + 3) lo (.long r :: rest) mu') : AW X V Sh nL pc lo st0 mu := fun H locs ls hP hS hl => by
  obtain ⟨bytes, maxL, ret, ws', hg, hw, hrc, hrs, hdd, hR⟩ := K
  obtain ⟨rfl, rfl⟩ := B.2.2.2.2.2
  exact ab_after (va_runS (As := As) (rest := rest) B.1 hM (va_cwS n B.1.2.2.2.2 hg hw hrc hrs hdd hR) ⟨ab_blind B.2.2.1 _ _, ab_pre B hP hS⟩ rfl hn hl.1 hst (lv_room hrm) hd ⟨Nat.zero_le _, Nat.zero_le _⟩) hS hl (fun r mu' h => by obtain ⟨v, rfl, h⟩ := h; exact kk v mu' h)
theorem a_callNl (B : CX X l R own cc Ts nL V Sh) {index n : Nat} {host : String} {y : MethodName} {ws : List Cond} {rm : Room} {As st0 rest : List Value} {P : Int64 → ab_mem → Prop} (K : KN own Ts R y ws rm n) (hN : va_Nw (.methodLinkNest own index y host) (xs X)) (hM : CT l V Sh y ws rm As mu (pL P)) (hn : As.length = n) (hst : st0 = As.reverse ++ rest) (hrm : (rest.map fun v => v.category).sum ≤ 8) (hd : decode cc pc = .ok (.invokestatic index, 3)) (kk : ∀ (r : Int64) (mu' : ab_mem), P r mu' → AW X V Sh nL (pc + 3) lo (.long r :: rest) mu') : AW X V Sh nL pc lo st0 mu := fun H locs ls hP hS hl => by
  obtain ⟨bytes, maxL, ret, ws', hg, hsy, hini, hw, hrc, hrs, hdd, hR⟩ := K
  obtain ⟨rfl, rfl⟩ := B.2.2.2.2.2
  exact ab_after (va_runSN (As := As) (rest := rest) B.1 hM ⟨va_cnB n B.1.2.2.2.2 hg hw hrc hrs hN (B.1.2.2.2.2 _ hini) hdd hR, B.1.2.2.2.2 _ hsy, trivial⟩ ⟨ab_blind B.2.2.1 _ _, ab_pre B hP hS⟩ rfl hn hl.1 hst (lv_room hrm) hd ⟨Nat.zero_le _, Nat.zero_le _⟩) hS hl (fun r mu' h => by obtain ⟨v, rfl, h⟩ := h; exact kk v mu' h)
theorem a_callVv (B : CX X l R own cc Ts nL V Sh) {index q ci n N : Nat} {C : String} {T : u_T} {fs : List (Option Nat)} {y : MethodName} {ws : List Cond} {rm : Room} {As st0 rest : List Value} {P : ab_mem → Prop} (K : KV own Ts R index C y ws rm n) (hM : CT l V Sh y ws rm (.ref (aL V q) :: As) mu (pV P)) (hs : Sh[q]? = some (.inl (ci, fs))) (hc : vwCl[ci]? = some (C, T, N)) (hn : As.length = n) (hst : st0 = As.reverse ++ .ref (aL V q) :: rest) (hrm : (rest.map fun v => v.category).sum ≤ 8) (hd : decode cc pc = .ok (.invokevirtual index, 3)) (kk : ∀ (mu' : ab_mem), P mu' → AW X V Sh nL (pc + 3) lo (rest) mu') : AW X V Sh nL pc lo st0 mu := fun H locs ls hP hS hl => by
  obtain ⟨bytes, maxL, ret, ws', hg, hw, hrc, hrs, hdd, hR⟩ := K
  obtain ⟨rfl, rfl⟩ := B.2.2.2.2.2
  exact ab_after (va_runV (As := As) (rest := rest) (C := C) B.1 hM (cwV n B.1.2.2.2.2 hg hw hrc hrs hdd hR) ⟨ab_blind B.2.2.1 _ _, va_recv B.2.1 hP hc (ab_get hs), ab_pre B hP hS⟩ rfl hn hl.1 hst (lv_room hrm) hd ⟨Nat.zero_le _, Nat.zero_le _⟩) hS hl (fun r mu' h => by obtain ⟨rfl, h⟩ := h; exact kk mu' h)
theorem a_callSv (B : CX X l R own cc Ts nL V Sh) {index n : Nat} {y : MethodName} {ws : List Cond} {rm : Room} {As st0 rest : List Value} {P : ab_mem → Prop} (K : KS own Ts R index y ws rm n) (hM : CT l V Sh y ws rm As mu (pV P)) (hn : As.length = n) (hst : st0 = As.reverse ++ rest) (hrm : (rest.map fun v => v.category).sum ≤ 8) (hd : decode cc pc = .ok (.invokestatic index, 3)) (kk : ∀ (mu' : ab_mem), P mu' → AW X V Sh nL (pc + 3) lo (rest) mu') : AW X V Sh nL pc lo st0 mu := fun H locs ls hP hS hl => by
  obtain ⟨bytes, maxL, ret, ws', hg, hw, hrc, hrs, hdd, hR⟩ := K
  obtain ⟨rfl, rfl⟩ := B.2.2.2.2.2
  exact ab_after (va_runS (As := As) (rest := rest) B.1 hM (va_cwS n B.1.2.2.2.2 hg hw hrc hrs hdd hR) ⟨ab_blind B.2.2.1 _ _, ab_pre B hP hS⟩ rfl hn hl.1 hst (lv_room hrm) hd ⟨Nat.zero_le _, Nat.zero_le _⟩) hS hl (fun r mu' h => by obtain ⟨rfl, h⟩ := h; exact kk mu' h)
theorem a_callNv (B : CX X l R own cc Ts nL V Sh) {index n : Nat} {host : String} {y : MethodName} {ws : List Cond} {rm : Room} {As st0 rest : List Value} {P : ab_mem → Prop} (K : KN own Ts R y ws rm n) (hN : va_Nw (.methodLinkNest own index y host) (xs X)) (hM : CT l V Sh y ws rm As mu (pV P)) (hn : As.length = n) (hst : st0 = As.reverse ++ rest) (hrm : (rest.map fun v => v.category).sum ≤ 8) (hd : decode cc pc = .ok (.invokestatic index, 3)) (kk : ∀ (mu' : ab_mem), P mu' → AW X V Sh nL (pc + 3) lo (rest) mu') : AW X V Sh nL pc lo st0 mu := fun H locs ls hP hS hl => by
  obtain ⟨bytes, maxL, ret, ws', hg, hsy, hini, hw, hrc, hrs, hdd, hR⟩ := K
  obtain ⟨rfl, rfl⟩ := B.2.2.2.2.2
  exact ab_after (va_runSN (As := As) (rest := rest) B.1 hM ⟨va_cnB n B.1.2.2.2.2 hg hw hrc hrs hN (B.1.2.2.2.2 _ hini) hdd hR, B.1.2.2.2.2 _ hsy, trivial⟩ ⟨ab_blind B.2.2.1 _ _, ab_pre B hP hS⟩ rfl hn hl.1 hst (lv_room hrm) hd ⟨Nat.zero_le _, Nat.zero_le _⟩) hS hl (fun r mu' h => by obtain ⟨rfl, h⟩ := h; exact kk mu' h)
theorem a_callVr (B : CX X l R own cc Ts nL V Sh) {index q ci n N : Nat} {C : String} {T : u_T} {fs : List (Option Nat)} {y : MethodName} {ws : List Cond} {rm : Room} {As st0 rest : List Value} {P : Nat → ab_mem → Prop} (K : KV own Ts R index C y ws rm n) (hM : CT l V Sh y ws rm (.ref (aL V q) :: As) mu (pR P)) (hs : Sh[q]? = some (.inl (ci, fs))) (hc : vwCl[ci]? = some (C, T, N)) (hn : As.length = n) (hst : st0 = As.reverse ++ .ref (aL V q) :: rest) (hrm : (rest.map fun v => v.category).sum ≤ 8) (hd : decode cc pc = .ok (.invokevirtual index, 3)) (kk : ∀ (r : Nat) (mu' : ab_mem), P r mu' → AW X V Sh nL (pc + 3) lo (.ref r :: rest) mu') : AW X V Sh nL pc lo st0 mu := fun H locs ls hP hS hl => by
  obtain ⟨bytes, maxL, ret, ws', hg, hw, hrc, hrs, hdd, hR⟩ := K
  obtain ⟨rfl, rfl⟩ := B.2.2.2.2.2
  exact ab_after (va_runV (As := As) (rest := rest) (C := C) B.1 hM (cwV n B.1.2.2.2.2 hg hw hrc hrs hdd hR) ⟨ab_blind B.2.2.1 _ _, va_recv B.2.1 hP hc (ab_get hs), ab_pre B hP hS⟩ rfl hn hl.1 hst (lv_room hrm) hd ⟨Nat.zero_le _, Nat.zero_le _⟩) hS hl (fun r mu' h => by obtain ⟨v, rfl, h⟩ := h; exact kk v mu' h)
theorem a_callSr (B : CX X l R own cc Ts nL V Sh) {index n : Nat} {y : MethodName} {ws : List Cond} {rm : Room} {As st0 rest : List Value} {P : Nat → ab_mem → Prop} (K : KS own Ts R index y ws rm n) (hM : CT l V Sh y ws rm As mu (pR P)) (hn : As.length = n) (hst : st0 = As.reverse ++ rest) (hrm : (rest.map fun v => v.category).sum ≤ 8) (hd : decode cc pc = .ok (.invokestatic index, 3)) (kk : ∀ (r : Nat) (mu' : ab_mem), P r mu' → AW X V Sh nL (pc + 3) lo (.ref r :: rest) mu') : AW X V Sh nL pc lo st0 mu := fun H locs ls hP hS hl => by
  obtain ⟨bytes, maxL, ret, ws', hg, hw, hrc, hrs, hdd, hR⟩ := K
  obtain ⟨rfl, rfl⟩ := B.2.2.2.2.2
  exact ab_after (va_runS (As := As) (rest := rest) B.1 hM (va_cwS n B.1.2.2.2.2 hg hw hrc hrs hdd hR) ⟨ab_blind B.2.2.1 _ _, ab_pre B hP hS⟩ rfl hn hl.1 hst (lv_room hrm) hd ⟨Nat.zero_le _, Nat.zero_le _⟩) hS hl (fun r mu' h => by obtain ⟨v, rfl, h⟩ := h; exact kk v mu' h)
theorem a_callNr (B : CX X l R own cc Ts nL V Sh) {index n : Nat} {host : String} {y : MethodName} {ws : List Cond} {rm : Room} {As st0 rest : List Value} {P : Nat → ab_mem → Prop} (K : KN own Ts R y ws rm n) (hN : va_Nw (.methodLinkNest own index y host) (xs X)) (hM : CT l V Sh y ws rm As mu (pR P)) (hn : As.length = n) (hst : st0 = As.reverse ++ rest) (hrm : (rest.map fun v => v.category).sum ≤ 8) (hd : decode cc pc = .ok (.invokestatic index, 3)) (kk : ∀ (r : Nat) (mu' : ab_mem), P r mu' → AW X V Sh nL (pc + 3) lo (.ref r :: rest) mu') : AW X V Sh nL pc lo st0 mu := fun H locs ls hP hS hl => by
  obtain ⟨bytes, maxL, ret, ws', hg, hsy, hini, hw, hrc, hrs, hdd, hR⟩ := K
  obtain ⟨rfl, rfl⟩ := B.2.2.2.2.2
  exact ab_after (va_runSN (As := As) (rest := rest) B.1 hM ⟨va_cnB n B.1.2.2.2.2 hg hw hrc hrs hN (B.1.2.2.2.2 _ hini) hdd hR, B.1.2.2.2.2 _ hsy, trivial⟩ ⟨ab_blind B.2.2.1 _ _, ab_pre B hP hS⟩ rfl hn hl.1 hst (lv_room hrm) hd ⟨Nat.zero_le _, Nat.zero_le _⟩) hS hl (fun r mu' h => by obtain ⟨v, rfl, h⟩ := h; exact kk v mu' h)
theorem a_min (B : CX X l R own cc Ts nL V Sh) {index : Nat} {x y : Int32} (h1 : Cond.methodLink own index Lib.Math.min.name ∈ Ts) (h2 : Cond.static Lib.Math.min.name ∈ Ts) (h3 : Cond.initialized "java/lang/Math" ∈ Ts) (h4 : Cond.code Lib.Math.min.name Lib.Math.min.code 2 (some .int) ∈ Ts) (hf : 1 ≤ R.frames) (hlo : (st.map fun v => v.category).sum + 13 ≤ R.locals) (hd : decode cc pc = .ok (.invokestatic index, 3)) (kk : AW X V Sh nL (pc + 3) lo (.int (if y < x then y else x) :: st) mu) : AW X V Sh nL pc lo (.int y :: .int x :: st) mu := fun H locs ls hP hS hl => by
  obtain ⟨rfl, rfl⟩ := B.2.2.2.2.2
  exact va_mmin B.1.1 B.1.2.1 (by rw [B.1.2.2.1, hl.1]) B.1.2.2.2.1 (B.1.2.2.2.2 _ h1) (B.1.2.2.2.2 _ h2) (B.1.2.2.2.2 _ h3) (B.1.2.2.2.2 _ h4) hf hlo (Nat.zero_le _) (Nat.zero_le _) hd (kk H locs ls hP hS hl)
theorem a_copy (B : CX X l R own cc Ts nL V Sh) {index q0 q1 n0 n1 : Nat} {sp dp n : Int32} (h1 : Cond.methodLink own index arraycopyName ∈ Ts) (h2 : Cond.native arraycopyName ∈ Ts) (h3 : Cond.static arraycopyName ∈ Ts) (h4 : Cond.initialized "java/lang/System" ∈ Ts) (hs0 : Sh[q0]? = some (.inr (.inl (0, n0)))) (hs1 : Sh[q1]? = some (.inr (.inl (0, n1)))) (i1 : ¬ sp < 0) (i2 : ¬ dp < 0) (i3 : ¬ n < 0) (i4 : sp.toNatClampNeg + n.toNatClampNeg ≤ n0) (i5 : dp.toNatClampNeg + n.toNatClampNeg ≤ n1) (hf : 1 ≤ R.frames) (hlo : (st.map fun v => v.category).sum + (nativeFrameWords "java/lang/System" "arraycopy" 5 + 11) ≤ R.locals) (hd : decode cc pc = .ok (.invokestatic index, 3)) (kk : AW X V Sh nL (pc + 3) lo st (ab_row mu q1 (va_cpy (mu q0) (mu q1) sp.toNatClampNeg dp.toNatClampNeg n.toNatClampNeg))) : AW X V Sh nL pc lo (.int n :: .int dp :: .ref (aL V q1) :: .int sp :: .ref (aL V q0) :: st) mu := fun H locs ls hP hS hl => by
  obtain ⟨rfl, rfl⟩ := B.2.2.2.2.2
  refine va_copyi (D := V.1) (ty := .int) B.1.1 B.1.2.1 (by rw [B.1.2.2.1, hl.1]) B.1.2.2.2.1 (B.1.2.2.2.2 _ h1) (B.1.2.2.2.2 _ h2) (B.1.2.2.2.2 _ h3) (B.1.2.2.2.2 _ h4) B.2.1 hP (ab_D B.2.2.1 mu) hS q0 q1 0 0 (ab_get hs0) (ab_get hs1) rfl rfl rfl i1 i2 i3 i4 i5 (fun _ _ => rfl) hf hlo hd (fun H1 locs1 hP1 _ hS1 => ?_)
  rw [ab_cell_row, ab_set hs1 ab_row_ne] at hP1
  exact kk H1 locs1 ls hP1 hS1 hl
end ABR
