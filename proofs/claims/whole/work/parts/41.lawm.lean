/-! THE CLAIM OUT OF ONE WALK OF THE LAW'S BODY. Your part is whole_start (and what it stands on); all else here is the same for every law, but numbers. -/
def R_law : String := "HiccupPeaceLaw"
def lw_P (b : Addr) (xs : List Int32) (args : Array Value) (s : State) : Prop := args = #[.ref b] ∧ s.IntsAt b xs ∧ xs.length ≤ 3072 ∧ (Jvm.Cond.and given_1 narrow_1).before args s = true
def lw_Q (_ : Array Value) (s : State) (o : Outcome) (t : State) : Prop := o = .returned (some (.int 1)) ∧ Framed s o t [] 600000 7302250
def lw_Z (below : List Frame) (a : Array Value) (s : State) : State → Prop := fun t => ∃ o, t.status = .running ∧ Ended t below o ∧ lw_Q a s o t
/-- the law's own end, with 1 on the stack, nothing written that was there before, its room as the claim has it -/
theorem lw_ret {p : Program} {l : Launch} {e : Env} {s : State} {m : MethodId} {below : List Frame} {meth : Method} {c : Code} {b : Nat} (hx : p.tables.exec = Jvm.exec) (hb : c.code = code) (hr : meth.sig.returnType = ret) (hlocks : meth.locks = false) {pc : Nat} {H : Heap} {ls : Array Slot} (hdg : decode code pc = .ok (.ireturn, 1)) : W p l e room_1 s m #[Value.ref b] below meth c H [] 600000 7302250 (lw_Z below #[Value.ref b] s) (F0 m pc ls [.int 1]) := by
  intro T hT X
  obtain ⟨fs, hret, hrun, hended, hW, hframe⟩ := X.leave (v := some (.int 1)) (hlocks := hlocks) (fun h => by rw [hr] at h; cases h)
  have hmeth' : T.vm.method? m = some meth := X.method'
  refine ⟨T.setFrames fs, ?_, .returned (some (.int 1)), hrun, hended, rfl, ⟨_, rfl⟩, hW, hframe⟩
  jvm_step X.here [X.here.top, hx, hb, hdg, hmeth', hr, ret, narrow_b1]
  (try refine ⟨rfl, ?_⟩); (try refine ⟨rfl, ?_⟩)
  first | (intro acts; rw [hret _ acts rfl rfl rfl]) | rw [hret _ _ rfl rfl rfl]
  exact Steps.refl _
/-- what holds at the law's entry: the machine, the code, the tables' words (any of lw_tbl by 'hts w (by decide +kernel)'), the script of L ints xs at the cell b, what the Statement gives of the start (any of its parts by flat_of_before) -/
def lw_At (p : Program) (s : State) (m : MethodId) (meth : Method) (c : Code) (b L : Nat) (xs : Nat → Int32) : Prop :=
  p.tables.exec = Jvm.exec ∧ c.code = code ∧ meth.sig.returnType = ret ∧ c.maxLocals = 4 ∧ s.vm.findClass R_law = some m.cls ∧ (∀ w ∈ lw_tbl, w.before #[Value.ref b] s = true) ∧ va_X b L xs s s.heap ∧ b < s.heap.size ∧ meth.locks = false ∧ (Jvm.Cond.and given_1 narrow_1).before #[Value.ref b] s = true
/-! the law: two worlds side by side, and the script -/
def nA (X : ab_X) : Nat → Prop := fun q => (xs X).heap.size ≤ q
def LPh (X : ab_X) (VX VM : ab_V) (x m : ab_mem) : Heap → List Loc → Prop := fun H locs => va_P VX.1 vwCl (ab_wd VX x ShX) H ∧ va_P VM.1 vwCl (ab_wd VM m ShM) H ∧ va_S (nA X) (xs X).heap H locs
def LC (X : ab_X) (l : Launch) (R : Room) (VX VM : ab_V) (b L : Nat) (ss : Nat → Int32) (cs sl : Nat) : Prop :=
  (GB X l R RL code wsL_law 4 ∧ cs ≤ R.cells ∧ sl ≤ R.slots) ∧ (va_K VX.1 vwCl (ab_tys VX) (xs X) ∧ va_K VM.1 vwCl (ab_tys VM) (xs X)) ∧ (OKX VX ∧ OKM VM) ∧ ((∀ i j, i < ShX.length → j < ShM.length → aL VX i ≠ aL VM j) ∧ (∀ q, ab_A VX ShX q → nA X q) ∧ (∀ q, ab_A VM ShM q → nA X q)) ∧ (∀ (U : State) (H : Heap) (locs : List Loc), va_S (nA X) (xs X).heap H locs → U.heap = H → (xs X).WarmedH U.vm → VX.2.2.2 U ∧ VM.2.2.2 U) ∧ va_X b L ss (xs X) (xs X).heap ∧ b < (xs X).heap.size ∧ L ≤ 3072
abbrev lL (b : Nat) (VX VM : ab_V) (k : Nat) : List (Option Value) := [some (.ref b), some (.ref (aL VX 0)), some (.ref (aL VM 0)), some (.int (nI k))]
section LAWM
variable {X : ab_X} {l : Launch} {R : Room} {VX VM : ab_V} {b L : Nat} {ss : Nat → Int32} {cs sl : Nat} {x m : ab_mem} {pc : Nat} {lo : List (Option Value)} {st : List Value}
theorem L_sld (K : LC X l R VX VM b L ss cs sl) {i : Int32} (hin : vp_in i L) (hd : decode code pc = .ok (.iaload, 1)) (k : GJ X (LPh X VX VM x m) 4 (pc + 1) lo (.int (ss i.toNatClampNeg) :: st) cs sl) : GJ X (LPh X VX VM x m) 4 pc lo (.int i :: .ref b :: st) cs sl := fun H locs ls hP hl =>
  va_sld (A := nA X) K.1.1.1.1 K.1.1.1.2.1 K.2.2.2.2.2.1 K.2.2.2.2.2.2.1 (Nat.not_le.mpr K.2.2.2.2.2.2.1) hP.2.2 hin hd (k H locs ls hP hl)
theorem L_slen (K : LC X l R VX VM b L ss cs sl) (hd : decode code pc = .ok (.arraylength, 1)) (k : GJ X (LPh X VX VM x m) 4 (pc + 1) lo (.int (Int32.ofNat L) :: st) cs sl) : GJ X (LPh X VX VM x m) 4 pc lo (.ref b :: st) cs sl := fun H locs ls hP hl =>
  va_slen (A := nA X) K.1.1.1.1 K.1.1.1.2.1 K.2.2.2.2.2.1 K.2.2.2.2.2.2.1 (Nat.not_le.mpr K.2.2.2.2.2.2.1) hP.2.2 hd (k H locs ls hP hl)
theorem L_in (K : LC X l R VX VM b L ss cs sl) {k : Nat} (hk : k + 6 ≤ L) (t : Nat) (ht : t < 6) : vp_in (nI k + nI t) L := by
  rw [nI_add]
  exact vp_in_nI (by omega) (by have := K.2.2.2.2.2.2.2; omega)
theorem L_callX (K : LC X l R VX VM b L ss cs sl) {index n : Nat} {y : MethodName} {ws : List Cond} {rm : Room} {As st0 : List Value} {po : ab_po} (kv : KV RL wsL_law R index RX7 y ws rm n) (hM : CT l VX ShX y ws rm (.ref (aL VX 0) :: As) x po) (hn : As.length = n) (hst : st0 = As.reverse ++ .ref (aL VX 0) :: st) (hrm : (st.map fun v => v.category).sum ≤ 8) (hd : decode code pc = .ok (.invokevirtual index, 3)) (kk : ∀ (r : Option Value) (x2 : ab_mem), po r x2 → GJ X (LPh X VX VM x2 m) 4 (pc + 3) lo (r.toList ++ st) cs sl) : GJ X (LPh X VX VM x m) 4 pc lo st0 cs sl := fun H locs ls hP hl => by
  have hR := K.1.1.2.2.2
  subst hR
  have hLl := K.1.1.2.2.1
  subst hLl
  obtain ⟨bytes, maxL, ret, ws', hg, hw, hrc, hrs, hdd, hfr⟩ := kv
  have hr := va_runV (cells := cs) (slots := sl) (e := xe X) (below := xb X) (meth := xM X) (locs := locs) (As := As) (rest := st) (C := RX7) (g := F0 (xm X) pc ls st0) K.1.1.1 hM (cwV n K.1.1.1.2.2.2.2 hg hw hrc hrs hdd hfr) ⟨ab_blind K.2.2.1.1.1 _ _, va_recv (ci := 7) (q := ((RX7, TX7, 9) : vw_C)) K.2.1.1 hP.1 rfl (ab_get (q := 0) (show ShX[0]? = some (.inl (7, [some 1, some 2, some 3, some 4, some 7, some 11, some 14, some 17, none])) from rfl)), fun U hU hW => ⟨rfl, by rw [hU]; exact hP.1, va_K.moved hW.alike K.2.1.1, (K.2.2.2.2.1 U H locs hP.2.2 hU hW).1⟩⟩ rfl hn hl.1 hst (lv_room hrm) hd ⟨K.1.2.1, K.1.2.2⟩
  intro T hT Y
  obtain ⟨v, st₀, t, T', Lc, h0, X', hL, e1, e2, ⟨⟨r, mu', hv, hpo, hb⟩, hz, hk⟩, stp⟩ := hr T hT Y
  cases hv
  rw [h0] at hz hk
  have ho : va_P VM.1 vwCl (ab_wd VM m ShM) T'.heap := hP.2.1.kept (fun k q hq => by
    obtain ⟨h3, h4⟩ := ab_got hq
    rw [e1]
    exact hk q.1 (hP.2.1 k q hq).lt (fun z => by obtain ⟨i, hi, he⟩ := z; exact K.2.2.2.1.1 i k hi h3 (he.trans h4)))
  obtain ⟨t2, a1, b1⟩ := kk _ mu' hpo T'.heap (locs ++ Lc) ls ⟨by rw [e1]; exact hb, ho, ⟨Nat.le_trans hP.2.2.1 (by rw [e1]; exact hz), fun q h1 h2 => by rw [e1, hk q (Nat.lt_of_lt_of_le h1 hP.2.2.1) (fun z => h2 (K.2.2.2.1.2.1 q z))]; exact hP.2.2.2.1 q h1 h2, fun q hq => by
      rcases List.mem_append.mp hq with h | h
      · exact hP.2.2.2.2 q h
      · exact K.2.2.2.1.2.1 _ (hL q h)⟩⟩ hl T' rfl X'
  exact ⟨t2, stp t2 a1, b1⟩
theorem L_callXi (K : LC X l R VX VM b L ss cs sl) {index n : Nat} {y : MethodName} {ws : List Cond} {rm : Room} {As st0 : List Value} {P : Int32 → ab_mem → Prop} (kv : KV RL wsL_law R index RX7 y ws rm n) (hM : CT l VX ShX y ws rm (.ref (aL VX 0) :: As) x (pI P)) (hn : As.length = n) (hst : st0 = As.reverse ++ .ref (aL VX 0) :: st) (hrm : (st.map fun v => v.category).sum ≤ 8) (hd : decode code pc = .ok (.invokevirtual index, 3)) (kk : ∀ (r : Int32) (x2 : ab_mem), P r x2 → GJ X (LPh X VX VM x2 m) 4 (pc + 3) lo (.int r :: st) cs sl) : GJ X (LPh X VX VM x m) 4 pc lo st0 cs sl :=
  L_callX K kv hM hn hst hrm hd (fun r mu2 h => by obtain ⟨v, rfl, h⟩ := h; exact kk v mu2 h)
theorem L_callXl (K : LC X l R VX VM b L ss cs sl) {index n : Nat} {y : MethodName} {ws : List Cond} {rm : Room} {As st0 : List Value} {P : Int64 → ab_mem → Prop} (kv : KV RL wsL_law R index RX7 y ws rm n) (hM : CT l VX ShX y ws rm (.ref (aL VX 0) :: As) x (pL P)) (hn : As.length = n) (hst : st0 = As.reverse ++ .ref (aL VX 0) :: st) (hrm : (st.map fun v => v.category).sum ≤ 8) (hd : decode code pc = .ok (.invokevirtual index, 3)) (kk : ∀ (r : Int64) (x2 : ab_mem), P r x2 → GJ X (LPh X VX VM x2 m) 4 (pc + 3) lo (.long r :: st) cs sl) : GJ X (LPh X VX VM x m) 4 pc lo st0 cs sl :=
  L_callX K kv hM hn hst hrm hd (fun r mu2 h => by obtain ⟨v, rfl, h⟩ := h; exact kk v mu2 h)
theorem L_callM (K : LC X l R VX VM b L ss cs sl) {index n : Nat} {y : MethodName} {ws : List Cond} {rm : Room} {As st0 : List Value} {po : ab_po} (kv : KV RL wsL_law R index RX8 y ws rm n) (hM : CT l VM ShM y ws rm (.ref (aL VM 0) :: As) m po) (hn : As.length = n) (hst : st0 = As.reverse ++ .ref (aL VM 0) :: st) (hrm : (st.map fun v => v.category).sum ≤ 8) (hd : decode code pc = .ok (.invokevirtual index, 3)) (kk : ∀ (r : Option Value) (m2 : ab_mem), po r m2 → GJ X (LPh X VX VM x m2) 4 (pc + 3) lo (r.toList ++ st) cs sl) : GJ X (LPh X VX VM x m) 4 pc lo st0 cs sl := fun H locs ls hP hl => by
  have hR := K.1.1.2.2.2
  subst hR
  have hLl := K.1.1.2.2.1
  subst hLl
  obtain ⟨bytes, maxL, ret, ws', hg, hw, hrc, hrs, hdd, hfr⟩ := kv
  have hr := va_runV (cells := cs) (slots := sl) (e := xe X) (below := xb X) (meth := xM X) (locs := locs) (As := As) (rest := st) (C := RX8) (g := F0 (xm X) pc ls st0) K.1.1.1 hM (cwV n K.1.1.1.2.2.2.2 hg hw hrc hrs hdd hfr) ⟨ab_blind K.2.2.1.2 _ _, va_recv (ci := 8) (q := ((RX8, TX8, 23) : vw_C)) K.2.1.2 hP.2.1 rfl (ab_get (q := 0) (show ShM[0]? = some (.inl (8, [some 1, some 2, some 3, some 4, some 5, none, none, none, some 6, some 7, some 8, some 9, some 10, none, some 11, some 12, some 13, some 14, some 15, some 16, some 17, some 18, none])) from rfl)), fun U hU hW => ⟨rfl, by rw [hU]; exact hP.2.1, va_K.moved hW.alike K.2.1.2, (K.2.2.2.2.1 U H locs hP.2.2 hU hW).2⟩⟩ rfl hn hl.1 hst (lv_room hrm) hd ⟨K.1.2.1, K.1.2.2⟩
  intro T hT Y
  obtain ⟨v, st₀, t, T', Lc, h0, X', hL, e1, e2, ⟨⟨r, mu', hv, hpo, hb⟩, hz, hk⟩, stp⟩ := hr T hT Y
  cases hv
  rw [h0] at hz hk
  have ho : va_P VX.1 vwCl (ab_wd VX x ShX) T'.heap := hP.1.kept (fun k q hq => by
    obtain ⟨h3, h4⟩ := ab_got hq
    rw [e1]
    exact hk q.1 (hP.1 k q hq).lt (fun z => by obtain ⟨i, hi, he⟩ := z; exact K.2.2.2.1.1 k i h3 hi (h4.symm.trans he.symm)))
  obtain ⟨t2, a1, b1⟩ := kk _ mu' hpo T'.heap (locs ++ Lc) ls ⟨ho, by rw [e1]; exact hb, ⟨Nat.le_trans hP.2.2.1 (by rw [e1]; exact hz), fun q h1 h2 => by rw [e1, hk q (Nat.lt_of_lt_of_le h1 hP.2.2.1) (fun z => h2 (K.2.2.2.1.2.2 q z))]; exact hP.2.2.2.1 q h1 h2, fun q hq => by
      rcases List.mem_append.mp hq with h | h
      · exact hP.2.2.2.2 q h
      · exact K.2.2.2.1.2.2 _ (hL q h)⟩⟩ hl T' rfl X'
  exact ⟨t2, stp t2 a1, b1⟩
theorem L_callMi (K : LC X l R VX VM b L ss cs sl) {index n : Nat} {y : MethodName} {ws : List Cond} {rm : Room} {As st0 : List Value} {P : Int32 → ab_mem → Prop} (kv : KV RL wsL_law R index RX8 y ws rm n) (hM : CT l VM ShM y ws rm (.ref (aL VM 0) :: As) m (pI P)) (hn : As.length = n) (hst : st0 = As.reverse ++ .ref (aL VM 0) :: st) (hrm : (st.map fun v => v.category).sum ≤ 8) (hd : decode code pc = .ok (.invokevirtual index, 3)) (kk : ∀ (r : Int32) (m2 : ab_mem), P r m2 → GJ X (LPh X VX VM x m2) 4 (pc + 3) lo (.int r :: st) cs sl) : GJ X (LPh X VX VM x m) 4 pc lo st0 cs sl :=
  L_callM K kv hM hn hst hrm hd (fun r mu2 h => by obtain ⟨v, rfl, h⟩ := h; exact kk v mu2 h)
theorem L_callMl (K : LC X l R VX VM b L ss cs sl) {index n : Nat} {y : MethodName} {ws : List Cond} {rm : Room} {As st0 : List Value} {P : Int64 → ab_mem → Prop} (kv : KV RL wsL_law R index RX8 y ws rm n) (hM : CT l VM ShM y ws rm (.ref (aL VM 0) :: As) m (pL P)) (hn : As.length = n) (hst : st0 = As.reverse ++ .ref (aL VM 0) :: st) (hrm : (st.map fun v => v.category).sum ≤ 8) (hd : decode code pc = .ok (.invokevirtual index, 3)) (kk : ∀ (r : Int64) (m2 : ab_mem), P r m2 → GJ X (LPh X VX VM x m2) 4 (pc + 3) lo (.long r :: st) cs sl) : GJ X (LPh X VX VM x m) 4 pc lo st0 cs sl :=
  L_callM K kv hM hn hst hrm hd (fun r mu2 h => by obtain ⟨v, rfl, h⟩ := h; exact kk v mu2 h)
end LAWM
