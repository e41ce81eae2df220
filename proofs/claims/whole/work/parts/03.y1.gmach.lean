/-! the machine over any predicate of the heap; cells that are made; constructors -/
def GJ (X : ab_X) (Ph : Heap → List Loc → Prop) (nL pc : Nat) (lo : List (Option Value)) (st : List Value) (cs sl : Nat) : Prop :=
  ∀ (H : Heap) (locs : List Loc) (ls : Array Slot), Ph H locs → ab_LH ls nL lo → W (xp X) (xl X) (xe X) (xR X) (xs X) (xm X) (xa X) (xb X) (xM X) (xc X) H locs cs sl (xQ X) (F0 (xm X) pc ls st)
def GB (X : ab_X) (l : Launch) (R : Room) (own : String) (cc : ByteArray) (Ts : List Cond) (nL : Nat) : Prop := CallFix (xp X) (xm X) (xc X) cc nL (xs X) (xa X) Ts own ∧ (xM X).locks = false ∧ xl X = l ∧ xR X = R
def gH (X : ab_X) (D : va_G) (A : Nat → Prop) (w : va_W) : Heap → List Loc → Prop := fun H locs => va_P D vwCl w H ∧ va_D A w ∧ va_S A (xs X).heap H locs
def GN (X : ab_X) (D : va_G) (tys : List (ClassId × FieldType)) (A : Nat → Prop) (ev : State → Prop) : Prop := va_K D vwCl tys (xs X) ∧ (∀ q : Nat, (xs X).heap.size ≤ q → A q) ∧ (xM X).name = "<init>" ∧ ev (xs X)
def gPc (D : va_G) (tys : List (ClassId × FieldType)) (ev : State → Prop) (h0 ci : Nat) (fs : List Value) (sz : Nat) : Array Value → State → Prop := fun v U => v = ([.ref h0] : List Value).toArray ∧ U.heap.size = sz ∧ va_P D vwCl [(h0, .inr (ci, fs))] U.heap ∧ va_K D vwCl tys U ∧ ev U
def gQ (D : va_G) (A : Nat → Prop) (po : va_W → Prop) : Array Value → State → Outcome → State → Prop := fun _ st oc t => (∃ w : va_W, oc = .returned none ∧ po w ∧ va_P D vwCl w t.heap ∧ va_D A w) ∧ va_F A st t
/-- a constructor's contract: from the bare object alone to the world w, po w -/
def IC (l : Launch) (D : va_G) (tys : List (ClassId × FieldType)) (ev : State → Prop) (y : MethodName) (ws : List Cond) (rm : Room) (h0 ci : Nat) (fs : List Value) (mc ms : Nat) (po : va_W → Prop) : Prop :=
  ∀ sz : Nat, Met l y ws rm (gPc D tys ev h0 ci fs sz) (gQ D (va_A [(h0, .inr (ci, fs))] sz) po) mc ms (va_A [(h0, .inr (ci, fs))] sz)
def GR (X : ab_X) (D : va_G) (A : Nat → Prop) (po : va_W → Prop) (mc ms : Nat) : Prop := (xM X).sig.returnType = none ∧ xQ X = MQ (xb X) (gQ D A po) (xa X) (xs X) mc ms A
theorem one_get {α : Type} {a b : α} {k : Nat} (h : [a][k]? = some b) : k = 0 ∧ b = a := by
  have hk : k < 1 := (List.getElem?_eq_some_iff.mp h).1
  have : k = 0 := by omega
  subst this
  exact ⟨rfl, (Option.some.inj h).symm⟩
set_option maxHeartbeats 4000000 in
theorem g_enter {l : Launch} {D : va_G} {tys : List (ClassId × FieldType)} {ev : State → Prop} {y : MethodName} {ws ws' : List Cond} {rm : Room} {h0 ci : Nat} {fs : List Value} {mc ms : Nat} {po : va_W → Prop} {cc : ByteArray} {nL : Nat} (hy : plainName y.cls = true) (hnm : y.name = "<init>") (hw : ws = Cond.code y cc nL none :: ws') (hlen : (lg_sl ([.ref h0] : List Value)).length ≤ nL)
    (body : ∀ (X : ab_X) (A : Nat → Prop), GB X l rm y.cls cc ws nL → GN X D tys A ev → GR X D A po mc ms → GJ X (gH X D A [(h0, .inr (ci, fs))]) nL 0 (ab_lo nL (lv_args 0 [.ref h0])) [] 0 0) : IC l D tys ev y ws rm h0 ci fs mc ms po := by
  intro sz
  refine Met.ofW (cc := cc) (maxL := nL) (ret := none) hy hw ?_
  intro p e s m args below meth c s₁ B hml hv
  obtain ⟨rfl, hsz, hP, hK, hE⟩ := hv
  subst hsz
  have hts := atoms_spec (ws := ws) B.pre
  have hown : s.vm.findClass y.cls = some m.cls := findClass_of_methodNamed B.named
  have hin : meth.name = "<init>" := (name_of_methodNamed B.named B.method).1.trans hnm
  have hl := lv_entry [.ref h0] (n := nL) hlen
  rw [lg_entry_eq]
  refine body (p, l, e, (headSpec ws rm).room, s, m, ([.ref h0] : List Value).toArray, below, meth, c, MQ below (gQ D (va_A [(h0, .inr (ci, fs))] s.heap.size) po) ([.ref h0] : List Value).toArray s mc ms (va_A [(h0, .inr (ci, fs))] s.heap.size)) (va_A [(h0, .inr (ci, fs))] s.heap.size) ⟨⟨B.exec, B.bytes, hml, hown, hts⟩, B.notSynchronized, rfl, rfl⟩ ⟨hK, fun q h => Or.inr h, hin, hE⟩ ⟨B.returns, rfl⟩ s.heap [] _ ⟨hP, ⟨fun i j p q hi hj _ => ?_, fun k q hk => va_A.in hk⟩, va_S.rf⟩ ?_
  · rw [(one_get hi).1, (one_get hj).1]
  · exact ⟨hl.1, hl.2.1, fun i v h => hl.2.2 (i, v) (ab_lo_get h)⟩
section GMR
variable {X : ab_X} {l : Launch} {R : Room} {own : String} {cc : ByteArray} {Ts : List Cond} {nL : Nat} {pc : Nat} {lo : List (Option Value)} {st : List Value} {cs sl : Nat} {Ph : Heap → List Loc → Prop}

theorem g_iconst (B : GB X l R own cc Ts nL) {n : Int} {v : Int32} (hd : decode cc pc = .ok (.iconst n, 1)) (hv : Int32.ofInt n = v) (k : GJ X Ph nL (pc + 1) lo (.int v :: st) cs sl) : GJ X Ph nL pc lo st cs sl := fun H locs ls hP hl => lv_iconst B.1.1 B.1.2.1 hd hv (k H locs ls hP hl)
theorem g_bipush (B : GB X l R own cc Ts nL) {n : Int} {v : Int32} (hd : decode cc pc = .ok (.bipush n, 2)) (hv : (Int8.ofInt n).toInt32 = v) (k : GJ X Ph nL (pc + 2) lo (.int v :: st) cs sl) : GJ X Ph nL pc lo st cs sl := fun H locs ls hP hl => lv_bipush B.1.1 B.1.2.1 hd hv (k H locs ls hP hl)
theorem g_sipush (B : GB X l R own cc Ts nL) {n : Int} {v : Int32} (hd : decode cc pc = .ok (.sipush n, 3)) (hv : (Int16.ofInt n).toInt32 = v) (k : GJ X Ph nL (pc + 3) lo (.int v :: st) cs sl) : GJ X Ph nL pc lo st cs sl := fun H locs ls hP hl => lv_sipush B.1.1 B.1.2.1 hd hv (k H locs ls hP hl)
theorem g_iload_n (B : GB X l R own cc Ts nL) {k0 : Fin 4} {x : Int32} (hd : decode cc pc = .ok (.iload_n k0, 1)) (hl0 : lo[k0.val]? = some (some (.int x))) (k : GJ X Ph nL (pc + 1) lo (.int x :: st) cs sl) : GJ X Ph nL pc lo st cs sl := fun H locs ls hP hl => lv_iload_n B.1.1 B.1.2.1 hd rfl (hl.2.2 _ _ hl0) (k H locs ls hP hl)
theorem g_aload_n (B : GB X l R own cc Ts nL) {k0 : Fin 4} {x : Nat} (hd : decode cc pc = .ok (.aload_n k0, 1)) (hl0 : lo[k0.val]? = some (some (.ref x))) (k : GJ X Ph nL (pc + 1) lo (.ref x :: st) cs sl) : GJ X Ph nL pc lo st cs sl := fun H locs ls hP hl => lv_aload_n B.1.1 B.1.2.1 hd rfl (hl.2.2 _ _ hl0) (k H locs ls hP hl)
theorem g_iadd (B : GB X l R own cc Ts nL) {x y : Int32} (hd : decode cc pc = .ok (.iadd, 1))  (k : GJ X Ph nL (pc + 1) lo (.int (x + y) :: st) cs sl) : GJ X Ph nL pc lo (.int y :: .int x :: st) cs sl := fun H locs ls hP hl => lv_iadd B.1.1 B.1.2.1 hd (k H locs ls hP hl)
theorem g_isub (B : GB X l R own cc Ts nL) {x y : Int32} (hd : decode cc pc = .ok (.isub, 1))  (k : GJ X Ph nL (pc + 1) lo (.int (x - y) :: st) cs sl) : GJ X Ph nL pc lo (.int y :: .int x :: st) cs sl := fun H locs ls hP hl => lv_isub B.1.1 B.1.2.1 hd (k H locs ls hP hl)
theorem g_iand (B : GB X l R own cc Ts nL) {x y : Int32} (hd : decode cc pc = .ok (.iand, 1))  (k : GJ X Ph nL (pc + 1) lo (.int (x &&& y) :: st) cs sl) : GJ X Ph nL pc lo (.int y :: .int x :: st) cs sl := fun H locs ls hP hl => lv_iand B.1.1 B.1.2.1 hd (k H locs ls hP hl)
theorem g_lcmp (B : GB X l R own cc Ts nL) {x y : Int64} (hd : decode cc pc = .ok (.lcmp, 1))  (k : GJ X Ph nL (pc + 1) lo (.int (lg_cmp x y) :: st) cs sl) : GJ X Ph nL pc lo (.long y :: .long x :: st) cs sl := fun H locs ls hP hl => W.lcmp B.1.1 B.1.2.1 hd (k H locs ls hP hl)
theorem g_dup (B : GB X l R own cc Ts nL) {va : Value} (hd : decode cc pc = .ok (.dup, 1)) (h1 : va.category = 1) (k : GJ X Ph nL (pc + 1) lo (va :: va :: st) cs sl) : GJ X Ph nL pc lo (va :: st) cs sl := fun H locs ls hP hl => lv_dup B.1.1 B.1.2.1 hd h1 (k H locs ls hP hl)
theorem g_istore_n (B : GB X l R own cc Ts nL) {k0 : Fin 4} {x : Int32} (hd : decode cc pc = .ok (.istore_n k0, 1)) (hn : k0.val < nL) (kk : GJ X Ph nL (pc + 1) (ab_p1 lo k0.val (.int x)) st cs sl) : GJ X Ph nL pc lo (.int x :: st) cs sl := fun H locs ls hP hl => lv_istore_n B.1.1 B.1.2.1 hd rfl hl.has hn rfl (fun ls2 hl2 => kk H locs ls2 hP (ab_LH.p1 hl2))
theorem g_astore_n (B : GB X l R own cc Ts nL) {k0 : Fin 4} {x : Nat} (hd : decode cc pc = .ok (.astore_n k0, 1)) (hn : k0.val < nL) (kk : GJ X Ph nL (pc + 1) (ab_p1 lo k0.val (.ref x)) st cs sl) : GJ X Ph nL pc lo (.ref x :: st) cs sl := fun H locs ls hP hl => lv_astore_n B.1.1 B.1.2.1 hd rfl hl.has hn rfl (fun ls2 hl2 => kk H locs ls2 hP (ab_LH.p1 hl2))
theorem g_iinc (B : GB X l R own cc Ts nL) {i : Nat} {n : Int} {x v y : Int32} (hd : decode cc pc = .ok (.iinc i n, 3)) (hl0 : lo[i]? = some (some (.int x))) (hv : Int32.ofInt n = v) (hy : x + v = y) (hn : i < nL) (kk : GJ X Ph nL (pc + 3) (ab_p1 lo i (.int y)) st cs sl) : GJ X Ph nL pc lo st cs sl := fun H locs ls hP hl => by
  obtain ⟨k, hk⟩ := List.getElem?_of_mem (ab_pr_mem.mpr hl0)
  exact lv_iinc B.1.1 B.1.2.1 hd hl.has hk (by rw [hv, hy]) hn rfl (fun ls2 hl2 => kk H locs ls2 hP (ab_LH.p1 hl2))
theorem g_goto (B : GB X l R own cc Ts nL) {off : Int} {tgt : Nat} (hd : decode cc pc = .ok (.goto off, 3)) (ht : (pc : Int) + off = (tgt : Int)) (k : GJ X Ph nL tgt lo st cs sl) : GJ X Ph nL pc lo st cs sl := fun H locs ls hP hl => lv_goto B.1.1 B.1.2.1 hd ht (k H locs ls hP hl)
theorem g_tableIn (B : GB X l R own cc Ts nL) {dflt lw hi : Int} {offs : Array Int} {len : Nat} {x : Int32} {off : Int} {tgt : Nat} (hd : decode cc pc = .ok (.tableswitch dflt lw hi offs, len)) (h1 : ¬ x.toInt < lw) (h2 : ¬ hi < x.toInt) (ho : offs[(x.toInt - lw).toNat]? = some off) (ht : (pc : Int) + off = (tgt : Int)) (k : GJ X Ph nL tgt lo st cs sl) : GJ X Ph nL pc lo (.int x :: st) cs sl := fun H locs ls hP hl => lv_tableIn B.1.1 B.1.2.1 hd h1 h2 ho ht (k H locs ls hP hl)
theorem g_tableOut (B : GB X l R own cc Ts nL) {dflt lw hi : Int} {offs : Array Int} {len : Nat} {x : Int32} {tgt : Nat} (hd : decode cc pc = .ok (.tableswitch dflt lw hi offs, len)) (h : x.toInt < lw ∨ hi < x.toInt) (ht : (pc : Int) + dflt = (tgt : Int)) (k : GJ X Ph nL tgt lo st cs sl) : GJ X Ph nL pc lo (.int x :: st) cs sl := fun H locs ls hP hl => lv_tableOut B.1.1 B.1.2.1 hd h ht (k H locs ls hP hl)

theorem g_icmp_eq (B : GB X l R own cc Ts nL) {x y : Int32} {off : Int} {tgt : Nat} (hd : decode cc pc = .ok (.if_icmp .eq off, 3)) (ht : (pc : Int) + off = (tgt : Int)) (kt : x = y → GJ X Ph nL tgt lo st cs sl) (kf : ¬ (x = y) → GJ X Ph nL (pc + 3) lo st cs sl) : GJ X Ph nL pc lo (.int y :: .int x :: st) cs sl := fun H locs ls hP hl => lv_icmp_eq B.1.1 B.1.2.1 hd ht (fun q => kt q H locs ls hP hl) (fun q => kf q H locs ls hP hl)
theorem g_icmp_eq_t (B : GB X l R own cc Ts nL) {x y : Int32} {off : Int} {tgt : Nat} (hd : decode cc pc = .ok (.if_icmp .eq off, 3)) (ht : (pc : Int) + off = (tgt : Int)) (h : x = y) (kt : GJ X Ph nL tgt lo st cs sl) : GJ X Ph nL pc lo (.int y :: .int x :: st) cs sl := g_icmp_eq B hd ht (fun _ => kt) (fun q => absurd h q)
theorem g_icmp_eq_f (B : GB X l R own cc Ts nL) {x y : Int32} {off : Int} {tgt : Nat} (hd : decode cc pc = .ok (.if_icmp .eq off, 3)) (ht : (pc : Int) + off = (tgt : Int)) (h : ¬ (x = y)) (kf : GJ X Ph nL (pc + 3) lo st cs sl) : GJ X Ph nL pc lo (.int y :: .int x :: st) cs sl := g_icmp_eq B hd ht (fun q => absurd q h) (fun _ => kf)
theorem g_icmp_ne (B : GB X l R own cc Ts nL) {x y : Int32} {off : Int} {tgt : Nat} (hd : decode cc pc = .ok (.if_icmp .ne off, 3)) (ht : (pc : Int) + off = (tgt : Int)) (kt : ¬ x = y → GJ X Ph nL tgt lo st cs sl) (kf : x = y → GJ X Ph nL (pc + 3) lo st cs sl) : GJ X Ph nL pc lo (.int y :: .int x :: st) cs sl := fun H locs ls hP hl => lv_icmp_ne B.1.1 B.1.2.1 hd ht (fun q => kt q H locs ls hP hl) (fun q => kf q H locs ls hP hl)
theorem g_icmp_ne_t (B : GB X l R own cc Ts nL) {x y : Int32} {off : Int} {tgt : Nat} (hd : decode cc pc = .ok (.if_icmp .ne off, 3)) (ht : (pc : Int) + off = (tgt : Int)) (h : ¬ x = y) (kt : GJ X Ph nL tgt lo st cs sl) : GJ X Ph nL pc lo (.int y :: .int x :: st) cs sl := g_icmp_ne B hd ht (fun _ => kt) (fun q => absurd q h)
theorem g_icmp_ne_f (B : GB X l R own cc Ts nL) {x y : Int32} {off : Int} {tgt : Nat} (hd : decode cc pc = .ok (.if_icmp .ne off, 3)) (ht : (pc : Int) + off = (tgt : Int)) (h : x = y) (kf : GJ X Ph nL (pc + 3) lo st cs sl) : GJ X Ph nL pc lo (.int y :: .int x :: st) cs sl := g_icmp_ne B hd ht (fun q => absurd h q) (fun _ => kf)
theorem g_icmp_ge (B : GB X l R own cc Ts nL) {x y : Int32} {off : Int} {tgt : Nat} (hd : decode cc pc = .ok (.if_icmp .ge off, 3)) (ht : (pc : Int) + off = (tgt : Int)) (kt : y ≤ x → GJ X Ph nL tgt lo st cs sl) (kf : ¬ (y ≤ x) → GJ X Ph nL (pc + 3) lo st cs sl) : GJ X Ph nL pc lo (.int y :: .int x :: st) cs sl := fun H locs ls hP hl => lv_icmp_ge B.1.1 B.1.2.1 hd ht (fun q => kt q H locs ls hP hl) (fun q => kf q H locs ls hP hl)
theorem g_icmp_ge_t (B : GB X l R own cc Ts nL) {x y : Int32} {off : Int} {tgt : Nat} (hd : decode cc pc = .ok (.if_icmp .ge off, 3)) (ht : (pc : Int) + off = (tgt : Int)) (h : y ≤ x) (kt : GJ X Ph nL tgt lo st cs sl) : GJ X Ph nL pc lo (.int y :: .int x :: st) cs sl := g_icmp_ge B hd ht (fun _ => kt) (fun q => absurd h q)
theorem g_icmp_ge_f (B : GB X l R own cc Ts nL) {x y : Int32} {off : Int} {tgt : Nat} (hd : decode cc pc = .ok (.if_icmp .ge off, 3)) (ht : (pc : Int) + off = (tgt : Int)) (h : ¬ (y ≤ x)) (kf : GJ X Ph nL (pc + 3) lo st cs sl) : GJ X Ph nL pc lo (.int y :: .int x :: st) cs sl := g_icmp_ge B hd ht (fun q => absurd q h) (fun _ => kf)
theorem g_icmp_gt (B : GB X l R own cc Ts nL) {x y : Int32} {off : Int} {tgt : Nat} (hd : decode cc pc = .ok (.if_icmp .gt off, 3)) (ht : (pc : Int) + off = (tgt : Int)) (kt : y < x → GJ X Ph nL tgt lo st cs sl) (kf : ¬ (y < x) → GJ X Ph nL (pc + 3) lo st cs sl) : GJ X Ph nL pc lo (.int y :: .int x :: st) cs sl := fun H locs ls hP hl => lv_icmp_gt B.1.1 B.1.2.1 hd ht (fun q => kt q H locs ls hP hl) (fun q => kf q H locs ls hP hl)
theorem g_icmp_gt_t (B : GB X l R own cc Ts nL) {x y : Int32} {off : Int} {tgt : Nat} (hd : decode cc pc = .ok (.if_icmp .gt off, 3)) (ht : (pc : Int) + off = (tgt : Int)) (h : y < x) (kt : GJ X Ph nL tgt lo st cs sl) : GJ X Ph nL pc lo (.int y :: .int x :: st) cs sl := g_icmp_gt B hd ht (fun _ => kt) (fun q => absurd h q)
theorem g_icmp_gt_f (B : GB X l R own cc Ts nL) {x y : Int32} {off : Int} {tgt : Nat} (hd : decode cc pc = .ok (.if_icmp .gt off, 3)) (ht : (pc : Int) + off = (tgt : Int)) (h : ¬ (y < x)) (kf : GJ X Ph nL (pc + 3) lo st cs sl) : GJ X Ph nL pc lo (.int y :: .int x :: st) cs sl := g_icmp_gt B hd ht (fun q => absurd q h) (fun _ => kf)
theorem g_if_eq (B : GB X l R own cc Ts nL) {x : Int32} {off : Int} {tgt : Nat} (hd : decode cc pc = .ok (.ifCond .eq off, 3)) (ht : (pc : Int) + off = (tgt : Int)) (kt : x = 0 → GJ X Ph nL tgt lo st cs sl) (kf : ¬ (x = 0) → GJ X Ph nL (pc + 3) lo st cs sl) : GJ X Ph nL pc lo (.int x :: st) cs sl := fun H locs ls hP hl => lv_if_eq B.1.1 B.1.2.1 hd ht (fun q => kt q H locs ls hP hl) (fun q => kf q H locs ls hP hl)
theorem g_objInit (B : GB X l R own cc Ts nL) {index a : Nat} (h1 : Cond.methodLink own index objectInit ∈ Ts) (h2 : Cond.instanceMethod objectInit ∈ Ts) (h3 : Cond.code objectInit ⟨#[0xb1]⟩ 1 none ∈ Ts) (hf : 1 ≤ R.frames) (hlo : (st.map fun v => v.category).sum + 12 ≤ R.locals) (hd : decode cc pc = .ok (.invokespecial index, 3)) (k : GJ X Ph nL (pc + 3) lo st cs sl) : GJ X Ph nL pc lo (.ref a :: st) cs sl := fun H locs ls hP hl => by
  have hR := B.2.2.2
  subst hR
  refine W.objInit B.1.1 B.1.2.1 B.1.2.2.2.1 (B.1.2.2.2.2 _ h1) (B.1.2.2.2.2 _ h2) (B.1.2.2.2.2 _ h3) rfl (by rw [B.1.2.2.1]; exact hl.1) rfl hd hf (by show 2 * 0 + _ + 12 ≤ _; omega) ?_
  exact W.eq (g2 := F0 (xm X) (pc + 3) ls st) rfl (k H locs ls hP hl)
end GMR
section GMH
variable {X : ab_X} {l : Launch} {R : Room} {own : String} {cc : ByteArray} {Ts : List Cond} {nL : Nat} {pc : Nat} {lo : List (Option Value)} {st : List Value} {cs sl : Nat} {D : va_G} {tys : List (ClassId × FieldType)} {A : Nat → Prop} {ev : State → Prop} {w : va_W}
theorem g_newI (B : GB X l R own cc Ts nL) (C : GN X D tys A ev) {n : Int32} {N t0 : Nat} {cA : ClassId} (ht : tys[t0]? = some (cA, .int)) (ha : Cond.arrayClass .int ∈ Ts) (hn : ¬ n < 0) (hN : n.toNatClampNeg = N) (hb : N * 4 ≤ 536870912) (hc : cs + 1 ≤ R.cells) (hs : sl + N ≤ R.slots) (hd : decode cc pc = .ok (.newarray .int, 2)) (k : ∀ q : Nat, GJ X (gH X D A (w ++ [(q, .inl (cA, N, .inl (fun _ => 0)))])) nL (pc + 2) lo (.ref q :: st) (cs + 1) (sl + N)) : GJ X (gH X D A w) nL pc lo (.int n :: st) cs sl := fun H locs ls hP hl => by
  have hR := B.2.2.2
  subst hR
  refine va_newa (atype := .int) (ty := .int) B.1.1 B.1.2.1 (B.1.2.2.2.2 _ ha) rfl C.1 hP.1 hP.2.1 hP.2.2 C.2.1 (a0 := (N, .inl (fun _ => 0))) (fun _ => rfl) hn hN hb hc hs hd (fun q cB H1 hK1 hP1 hD1 hS1 => ?_)
  have h1 : (xs X).vm.findClass ("[" ++ FieldType.int.toString) = some cA := (C.1.2 t0 _ ht).2
  have h2 : (xs X).vm.findClass ("[" ++ FieldType.int.toString) = some cB := (hK1.2 tys.length (cB, .int) (by simp)).2
  have e : cB = cA := Option.some.inj (h2.symm.trans h1)
  subst e
  exact k q H1 locs ls ⟨hP1, hD1, hS1⟩ hl
theorem g_newZ (B : GB X l R own cc Ts nL) (C : GN X D tys A ev) {n : Int32} {N t0 : Nat} {cA : ClassId} (ht : tys[t0]? = some (cA, .boolean)) (ha : Cond.arrayClass .boolean ∈ Ts) (hn : ¬ n < 0) (hN : n.toNatClampNeg = N) (hb : N * 1 ≤ 536870912) (hc : cs + 1 ≤ R.cells) (hs : sl + N ≤ R.slots) (hd : decode cc pc = .ok (.newarray .boolean, 2)) (k : ∀ q : Nat, GJ X (gH X D A (w ++ [(q, .inl (cA, N, .inl (fun _ => 0)))])) nL (pc + 2) lo (.ref q :: st) (cs + 1) (sl + N)) : GJ X (gH X D A w) nL pc lo (.int n :: st) cs sl := fun H locs ls hP hl => by
  have hR := B.2.2.2
  subst hR
  refine va_newa (atype := .boolean) (ty := .boolean) B.1.1 B.1.2.1 (B.1.2.2.2.2 _ ha) rfl C.1 hP.1 hP.2.1 hP.2.2 C.2.1 (a0 := (N, .inl (fun _ => 0))) (fun _ => rfl) hn hN hb hc hs hd (fun q cB H1 hK1 hP1 hD1 hS1 => ?_)
  have h1 : (xs X).vm.findClass ("[" ++ FieldType.boolean.toString) = some cA := (C.1.2 t0 _ ht).2
  have h2 : (xs X).vm.findClass ("[" ++ FieldType.boolean.toString) = some cB := (hK1.2 tys.length (cB, .boolean) (by simp)).2
  have e : cB = cA := Option.some.inj (h2.symm.trans h1)
  subst e
  exact k q H1 locs ls ⟨hP1, hD1, hS1⟩ hl
theorem g_newq (B : GB X l R own cc Ts nL) (C : GN X D tys A ev) {n : Int32} {N t0 index : Nat} {cA : ClassId} {Cn : String} (ht : tys[t0]? = some (cA, .object Cn)) (hcl : Cond.classLink own index Cn ∈ Ts) (hov : va_AO Cn (xs X)) (hn : ¬ n < 0) (hN : n.toNatClampNeg = N) (hb : N * 4 ≤ 536870912) (hc : cs + 1 ≤ R.cells) (hs : sl + N ≤ R.slots) (hd : decode cc pc = .ok (.anewarray index, 3)) (k : ∀ q : Nat, GJ X (gH X D A (w ++ [(q, .inl (cA, N, .inr (.inr (.inr (.inr (fun _ => none))))))])) nL (pc + 3) lo (.ref q :: st) (cs + 1) (sl + N)) : GJ X (gH X D A w) nL pc lo (.int n :: st) cs sl := fun H locs ls hP hl => by
  have hR := B.2.2.2
  subst hR
  refine va_newq B.1.1 B.1.2.1 B.1.2.2.2.1 (B.1.2.2.2.2 _ hcl) hov C.1 hP.1 hP.2.1 hP.2.2 C.2.1 hn hN hb hc hs hd (fun q cB H1 hK1 hP1 hD1 hS1 => ?_)
  obtain ⟨_, _, -, -, -, h1⟩ : va_RA (xs X) cA (.object Cn) := (C.1.2 t0 _ ht).2
  obtain ⟨_, _, -, -, -, h2⟩ : va_RA (xs X) cB (.object Cn) := (hK1.2 tys.length (cB, .object Cn) (by simp)).2
  have e : cB = cA := Option.some.inj (h2.symm.trans h1)
  subst e
  exact k q H1 locs ls ⟨hP1, hD1, hS1⟩ hl
def NW (own : String) (Ts : List Cond) (index ci N : Nat) (fs : List Value) : Prop := ∃ (Cn : String) (T : u_T) (ty : Nat → FieldType), vwCl[ci]? = some (Cn, T, N) ∧ (∀ w ∈ u_ws Cn T N, w ∈ Ts) ∧ (∀ k, k < N → parseFieldDescriptor (T k).2.2.1 = some (ty k)) ∧ Cond.classLink own index Cn ∈ Ts ∧ Cond.instantiable Cn N ∈ Ts ∧ Cond.initialized Cn ∈ Ts ∧ (∀ j, j < N → defaultValue (ty j) = vp_V fs j)
theorem g_new (B : GB X l R own cc Ts nL) (hK : va_K D vwCl tys (xs X)) (hA : ∀ q : Nat, (xs X).heap.size ≤ q → A q) {index ci N : Nat} {fs : List Value} (F : NW own Ts index ci N fs) (hc : cs + 1 ≤ R.cells) (hs : sl + N ≤ R.slots) (hd : decode cc pc = .ok (.new index, 3)) (k : ∀ q : Nat, GJ X (gH X D A (w ++ [(q, .inr (ci, fs))])) nL (pc + 3) lo (.ref q :: st) (cs + 1) (sl + N)) : GJ X (gH X D A w) nL pc lo st cs sl := fun H locs ls hP hl => by
  have hR := B.2.2.2
  subst hR
  obtain ⟨Cn, T, ty, f1, f2, f3, f4, f5, f6, f7⟩ := F
  exact va_new (D := D) (ci := ci) (fs := fs) B.1.1 B.1.2.1 B.1.2.2.2.2 f2 ty f3 B.1.2.2.2.1 (B.1.2.2.2.2 _ f4) (B.1.2.2.2.2 _ f5) (B.1.2.2.2.2 _ f6) hK hP.1 hP.2.1 hP.2.2 hA f1 f7 hc hs hd (fun q H1 hP1 hD1 hS1 => k q H1 locs ls ⟨hP1, hD1, hS1⟩ hl)
def FQ (own : String) (Ts : List Cond) (index ci k : Nat) (ty : FieldType) : Prop := ∃ (C : String) (T : u_T) (N : Nat) (ty0 : Nat → FieldType), vwCl[ci]? = some (C, T, N) ∧ k < N ∧ (∀ w ∈ u_ws C T N, w ∈ Ts) ∧ Cond.fieldLink own index (T k).1 (T k).2.1 (T k).2.2.1 ∈ Ts ∧ (∀ k, k < N → parseFieldDescriptor (T k).2.2.1 = some (ty0 k)) ∧ (∀ a, a < N → ∀ b, b < N → a ≠ b → (T a).2.1 ≠ (T b).2.1) ∧ (T k).2.2.2 = true ∧ ty0 k = ty ∧ (T k).1 = own
theorem g_putF (B : GB X l R own cc Ts nL) (C : GN X D tys A ev) {index ci k a : Nat} {fs : List Value} {ty : FieldType} {v : Value} (F : FQ own Ts index ci k ty) (q0 : Nat) (he : w[q0]? = some (a, .inr (ci, fs))) (hn : narrow ty v = v) (hfit : fits ty v = true) (hlen : k < fs.length) (hd : decode cc pc = .ok (.putfield index, 3)) (kk : GJ X (gH X D A (w.set q0 (a, .inr (ci, fs.set k v)))) nL (pc + 3) lo st cs sl) : GJ X (gH X D A w) nL pc lo (v :: .ref a :: st) cs sl := fun H locs ls hP hl => by
  obtain ⟨Cn, T, N, ty0, hc, hk, hin, hlink, hty, hnm, hfin, rfl, hown⟩ := F
  exact va_putF (D := D) (ci := ci) (v := v) B.1.1 B.1.2.1 B.1.2.2.2.2 hin ty0 hty hnm B.1.2.2.2.1 C.1 hP.1 hP.2.1 hP.2.2 q0 he hc k hk (B.1.2.2.2.2 _ hlink) (fun _ h => h) hfin C.2.2.1 hown (hty k hk) hn hfit hlen hd (fun H1 locs1 hP1 hD1 hS1 => kk H1 locs1 ls ⟨hP1, hD1, hS1⟩ hl)
theorem g_put (B : GB X l R own cc Ts nL) (C : GN X D tys A ev) {index ci k a : Nat} {fs : List Value} {ty : FieldType} {v : Value} (F : FP own Ts index ci k ty) (q0 : Nat) (he : w[q0]? = some (a, .inr (ci, fs))) (hn : narrow ty v = v) (hfit : fits ty v = true) (hlen : k < fs.length) (hd : decode cc pc = .ok (.putfield index, 3)) (kk : GJ X (gH X D A (w.set q0 (a, .inr (ci, fs.set k v)))) nL (pc + 3) lo st cs sl) : GJ X (gH X D A w) nL pc lo (v :: .ref a :: st) cs sl := fun H locs ls hP hl => by
  obtain ⟨Cn, T, N, ty0, hc, hk, hin, hlink, hty, hnm, hfin, rfl⟩ := F
  exact va_put (D := D) (ci := ci) (v := v) B.1.1 B.1.2.1 B.1.2.2.2.2 hin ty0 hty hnm B.1.2.2.2.1 C.1 hP.1 hP.2.1 hP.2.2 q0 he hc k hk (B.1.2.2.2.2 _ hlink) (fun _ h => h) hfin (hty k hk) hn hfit hlen hd (fun H1 locs1 hP1 hD1 hS1 => kk H1 locs1 ls ⟨hP1, hD1, hS1⟩ hl)
theorem g_get (B : GB X l R own cc Ts nL) (C : GN X D tys A ev) {index ci k a : Nat} {fs : List Value} {v : Value} (F : FL own Ts index ci k) (q0 : Nat) (he : w[q0]? = some (a, .inr (ci, fs))) (hv : fs[k]? = some v) (hd : decode cc pc = .ok (.getfield index, 3)) (kk : GJ X (gH X D A w) nL (pc + 3) lo (v :: st) cs sl) : GJ X (gH X D A w) nL pc lo (.ref a :: st) cs sl := fun H locs ls hP hl => by
  obtain ⟨Cn, T, N, hc, hk, hin, hlink⟩ := F
  exact va_get (D := D) (ci := ci) (v := v) B.1.1 B.1.2.1 B.1.2.2.2.2 hin B.1.2.2.2.1 C.1 hP.1 q0 he hc k hk (B.1.2.2.2.2 _ hlink) (fun _ h => h) hv hd (kk H locs ls hP hl)
theorem g_iast (B : GB X l R own cc Ts nL) (C : GN X D tys A ev) {a n : Nat} {cA : ClassId} {f : Nat → Int32} {i x : Int32} (j q0 t0 : Nat) (he : w[q0]? = some (a, .inl (cA, n, .inl f))) (ht : tys[t0]? = some (cA, .int)) (hin : ¬ (i < 0 ∨ n ≤ i.toNatClampNeg)) (hj : i.toNatClampNeg = j) (hd : decode cc pc = .ok (.iastore, 1)) (kk : GJ X (gH X D A (w.set q0 (a, .inl (cA, n, .inl (upd f j x))))) nL (pc + 1) lo st cs sl) : GJ X (gH X D A w) nL pc lo (.int x :: .int i :: .ref a :: st) cs sl := fun H locs ls hP hl => by
  subst hj
  exact va_iast (D := D) B.1.1 B.1.2.1 C.1 hP.1 hP.2.1 hP.2.2 q0 t0 he ht hin hd (fun H1 locs1 hP1 hD1 hS1 => kk H1 locs1 ls ⟨hP1, hD1, hS1⟩ hl)
theorem g_aast (B : GB X l R own cc Ts nL) (C : GN X D tys A ev) {a n v : Nat} {cA : ClassId} {r : vw_C} {vs : List Value} {f : Nat → Option Nat} {i : Int32} (j q0 t0 qk ci : Nat) (he : w[q0]? = some (a, .inl (cA, n, .inr (.inr (.inr (.inr f)))))) (ht : tys[t0]? = some (cA, .object r.1)) (hv : w[qk]? = some (v, .inr (ci, vs))) (hc : vwCl[ci]? = some r) (hin : ¬ (i < 0 ∨ n ≤ i.toNatClampNeg)) (hj : i.toNatClampNeg = j) (hd : decode cc pc = .ok (.aastore, 1)) (kk : GJ X (gH X D A (w.set q0 (a, .inl (cA, n, .inr (.inr (.inr (.inr (va_up f j (some v))))))))) nL (pc + 1) lo st cs sl) : GJ X (gH X D A w) nL pc lo (.ref v :: .int i :: .ref a :: st) cs sl := fun H locs ls hP hl => by
  subst hj
  exact va_astq (D := D) B.1.1 B.1.2.1 C.1 hP.1 hP.2.1 hP.2.2 q0 t0 qk ci he ht hv hc hin hd (fun H1 locs1 hP1 hD1 hS1 => kk H1 locs1 ls ⟨hP1, hD1, hS1⟩ hl)
theorem g_perm {w' : va_W} (is : List Nat) (h1 : is.filterMap (fun i => w[i]?) = w') (hn : va_nd is = true) (h2 : is.map (fun i => w[i]?) = w'.map some) (k : GJ X (gH X D A w') nL pc lo st cs sl) : GJ X (gH X D A w) nL pc lo st cs sl := fun H locs ls hP hl => k H locs ls ⟨hP.1.sub is h1, hP.2.1.sub is hn h2, hP.2.2⟩ hl
theorem g_ret (B : GB X l R own cc Ts nL) {po : va_W → Prop} (E : GR X D A po cs sl) (hd : decode cc pc = .ok (.return_, 1)) (hpo : po w) : GJ X (gH X D A w) nL pc lo [] cs sl := fun H locs ls hP hl => by
  rw [E.2]
  exact W.vret B.1.1 B.1.2.1 E.1 (fun t ht _ => ⟨⟨w, rfl, hpo, by rw [ht]; exact hP.1, hP.2.1⟩, hP.2.2.F ht⟩) hP.2.2.2.2 hd B.2.1
/-- behind a constructor's call -/
theorem g_callI_of {q ci mc ms : Nat} {fs : List Value} {po : va_W → Prop} {a : Array Value} {H : Heap} {locs : List Loc} {ls : Array Slot} (hA : ∀ q : Nat, (xs X).heap.size ≤ q → A q) (hP : gH X D A (w ++ [(q, .inr (ci, fs))]) H locs) (hl : ab_LH ls nL lo) {st0 : List Value} (hr : va_Run (xp X) (xl X) (xe X) (xR X) (xs X) (xm X) (xa X) (xb X) (xM X) (xc X) H locs cs sl mc ms (F0 (xm X) pc ls st0) st (gQ D (va_A [(q, .inr (ci, fs))] H.size) po a) (va_A [(q, .inr (ci, fs))] H.size)) (kk : ∀ w1 : va_W, po w1 → GJ X (gH X D A (w ++ w1)) nL (pc + 3) lo st (cs + mc) (sl + ms)) : W (xp X) (xl X) (xe X) (xR X) (xs X) (xm X) (xa X) (xb X) (xM X) (xc X) H locs cs sl (xQ X) (F0 (xm X) pc ls st0) := by
  have hlast : (w ++ [(q, .inr (ci, fs))])[w.length]? = some ((q, .inr (ci, fs)) : Nat × va_E) := by simp
  have hww : ∀ (k : Nat) (x : Nat × va_E), w[k]? = some x → (w ++ [(q, .inr (ci, fs))])[k]? = some x := fun k x hx => by
    rw [List.getElem?_append_left (List.getElem?_eq_some_iff.mp hx).1]; exact hx
  have hF : ∀ x : Nat, va_A [(q, .inr (ci, fs))] H.size x → A x := by
    intro x hx
    rcases hx with ⟨k, e, hx⟩ | hx
    · have hq := (one_get hx).2
      have e2 : x = q := congrArg (fun z : Nat × va_E => z.1) hq
      rw [e2]
      exact hP.2.1.2 w.length _ hlast
    · exact hA x (Nat.le_trans hP.2.2.1 hx)
  have apart : ∀ (k : Nat) (x : Nat × va_E), w[k]? = some x → x.1 < H.size ∧ ¬ va_A [(q, .inr (ci, fs))] H.size x.1 := by
    intro k x hx
    have hlt := (hP.1 k x (hww k x hx)).lt
    refine ⟨hlt, fun h => ?_⟩
    rcases h with ⟨k2, e, h⟩ | h
    · have hq := (one_get h).2
      have e2 : x.1 = q := congrArg (fun z : Nat × va_E => z.1) hq
      have h3 := hP.2.1.1 k w.length x _ (hww k x hx) hlast e2
      have h4 := (List.getElem?_eq_some_iff.mp hx).1
      omega
    · omega
  intro T hT Y
  obtain ⟨v, st₀, t, T', L, h0, X', hL, e1, e2, ⟨⟨w1, hv, hpo, hP1, hD1⟩, hz, hk⟩, stp⟩ := hr T hT Y
  cases hv
  rw [h0] at hz hk
  obtain ⟨t2, a1, b1⟩ := kk w1 hpo T'.heap (locs ++ L) ls ⟨va_P.app (fun k x hx => (hP.1 k x (hww k x hx)).kept (by rw [e1]; exact hk x.1 (apart k x hx).1 (apart k x hx).2)) (by rw [e1]; exact hP1), va_D.app ⟨fun i j x y hi hj e => hP.2.1.1 i j x y (hww i x hi) (hww j y hj) e, fun k x hx => hP.2.1.2 k x (hww k x hx)⟩ (hD1.weaken (fun _ _ _ h => hF _ h)) (fun i j x y hx hy hxy => (apart i x hx).2 (by rw [hxy]; exact hD1.2 j y hy)), ⟨Nat.le_trans hP.2.2.1 (by rw [e1]; exact hz), fun x h1 h2 => by rw [e1, hk x (Nat.lt_of_lt_of_le h1 hP.2.2.1) (fun z => h2 (hF x z))]; exact hP.2.2.2.1 x h1 h2, fun x hx => by
      rcases List.mem_append.mp hx with h | h
      · exact hP.2.2.2.2 x h
      · exact hF _ (hL x h)⟩⟩ hl T' rfl X'
  exact ⟨t2, stp t2 a1, b1⟩
theorem gP_one {q ci : Nat} {fs : List Value} {H : Heap} {locs : List Loc} (hP : gH X D A (w ++ [(q, .inr (ci, fs))]) H locs) : va_P D vwCl [(q, .inr (ci, fs))] H := fun k x hx => by
  obtain ⟨-, rfl⟩ := one_get hx
  exact hP.1 w.length _ (by simp)
def KI (Ts : List Cond) (R : Room) (y : MethodName) (ws : List Cond) (rm : Room) (mc ms : Nat) : Prop := ∃ (bytes : ByteArray) (maxL : Nat) (ws' : List Cond), GoodIn Ts ws ∧ ws = Cond.code y bytes maxL none :: ws' ∧ rm.cells = mc ∧ rm.slots = ms ∧ Cond.initialized y.cls ∈ Ts ∧ Cond.instanceMethod y ∈ Ts ∧ y.name = "<init>" ∧ (y.cls ≠ "java/lang/invoke/MethodHandle" ∧ y.cls ≠ "java/lang/invoke/VarHandle" ∧ (parseMethodDescriptor y.desc).map (fun d => d.parameters.length) = some 0) ∧ (rm.frames + 1 ≤ R.frames ∧ 8 + (maxL + 11) + rm.locals ≤ R.locals)
theorem g_blind {ev2 : State → Prop} {h0 ci sz : Nat} {fs : List Value} (hb : ∀ (U : State) (g : JFrame) (mk : MethodId) (a : Array Value), ev2 U → ev2 (U.calling g mk a)) : FrameBlind (gPc D tys ev2 h0 ci fs sz) := fun a U g mk q => ⟨q.1, q.2.1, q.2.2.1, va_K.moved (u := U) (U := U.calling g mk a) (Vm.Alike.refl U.vm) q.2.2.2.1, hb U g mk a q.2.2.2.2⟩
/-- the call of a nest mate's constructor, on the object just made -/
theorem g_callIN (B : GB X l R own cc Ts nL) (hK : va_K D vwCl tys (xs X)) (hA : ∀ q : Nat, (xs X).heap.size ≤ q → A q) {y : MethodName} {ws : List Cond} {rm : Room} {q ci mc ms index : Nat} {fs : List Value} {po : va_W → Prop} {ev2 : State → Prop} {host : String} (K : KI Ts R y ws rm mc ms) (hN : va_Nw (.methodLinkNest own index y host) (xs X)) (hb : ∀ (U : State) (g : JFrame) (mk : MethodId) (a : Array Value), ev2 U → ev2 (U.calling g mk a)) (hev : ∀ U : State, (xs X).WarmedH U.vm → ev2 U) (hM : IC l D tys ev2 y ws rm q ci fs mc ms po) (hrm : (st.map fun v => v.category).sum ≤ 8) (hc : cs + mc ≤ R.cells) (hs : sl + ms ≤ R.slots) (hd : decode cc pc = .ok (.invokespecial index, 3)) (kk : ∀ w1 : va_W, po w1 → GJ X (gH X D A (w ++ w1)) nL (pc + 3) lo st (cs + mc) (sl + ms)) : GJ X (gH X D A (w ++ [(q, .inr (ci, fs))])) nL pc lo (.ref q :: st) cs sl := fun H locs ls hP hl => by
  have hR := B.2.2.2
  subst hR
  have hLl := B.2.2.1
  subst hLl
  obtain ⟨bytes, maxL, ws', hg, hw, hrc, hrs, hini, hins, hnm, hdd, hfr⟩ := K
  exact g_callI_of hA hP hl (va_runIN (As := []) (rest := st) B.1 (hM H.size) ⟨va_cnB 0 B.1.2.2.2.2 hg hw hrc hrs hN (B.1.2.2.2.2 _ hini) hdd hfr, hnm, B.1.2.2.2.2 _ hins⟩ ⟨g_blind hb, fun U hU hW => ⟨rfl, by rw [hU], by rw [hU]; exact gP_one hP, va_K.moved hW.alike hK, hev U hW⟩⟩ rfl rfl hl.1 rfl (lv_room hrm) hd ⟨hc, hs⟩) kk
theorem g_callI (B : GB X l R own cc Ts nL) (hK : va_K D vwCl tys (xs X)) (hA : ∀ q : Nat, (xs X).heap.size ≤ q → A q) {y : MethodName} {ws : List Cond} {rm : Room} {q ci mc ms index : Nat} {fs : List Value} {po : va_W → Prop} {ev2 : State → Prop} (K : KI Ts R y ws rm mc ms) (hN : Cond.methodLink own index y ∈ Ts) (hb : ∀ (U : State) (g : JFrame) (mk : MethodId) (a : Array Value), ev2 U → ev2 (U.calling g mk a)) (hev : ∀ U : State, (xs X).WarmedH U.vm → ev2 U) (hM : IC l D tys ev2 y ws rm q ci fs mc ms po) (hrm : (st.map fun v => v.category).sum ≤ 8) (hc : cs + mc ≤ R.cells) (hs : sl + ms ≤ R.slots) (hd : decode cc pc = .ok (.invokespecial index, 3)) (kk : ∀ w1 : va_W, po w1 → GJ X (gH X D A (w ++ w1)) nL (pc + 3) lo st (cs + mc) (sl + ms)) : GJ X (gH X D A (w ++ [(q, .inr (ci, fs))])) nL pc lo (.ref q :: st) cs sl := fun H locs ls hP hl => by
  have hR := B.2.2.2
  subst hR
  have hLl := B.2.2.1
  subst hLl
  obtain ⟨bytes, maxL, ws', hg, hw, hrc, hrs, hini, hins, hnm, hdd, hfr⟩ := K
  exact g_callI_of hA hP hl (va_runI (As := []) (rest := st) B.1 (hM H.size) (cwI 0 B.1.2.2.2.2 hg hw hrc hrs (B.1.2.2.2.2 _ hini) (B.1.2.2.2.2 _ hN) (B.1.2.2.2.2 _ hins) hnm hdd hfr) ⟨g_blind hb, fun U hU hW => ⟨rfl, by rw [hU], by rw [hU]; exact gP_one hP, va_K.moved hW.alike hK, hev U hW⟩⟩ rfl rfl hl.1 rfl (lv_room hrm) hd ⟨hc, hs⟩) kk
end GMH
