/-! the class's digest -/
def H_flt (mu : ab_mem) (g : Nat) : Int32 := mu (19 + 2 * g) 2
def H_hic (mu : ab_mem) (g : Nat) : Int32 := bX mu g 0 99 24
def H_lv (h : Nat) (mu : ab_mem) (g : Nat) : Int32 := lX mu g 0 99 (h + 1)
def H_hrd (mu : ab_mem) (g : Nat) : Int32 := (hdS g (chX mu g) 7 24).2
def H_frt (mu : ab_mem) (g : Nat) : Int32 := frF (agX mu g) 24
def H_bk (mu : ab_mem) (w : Nat) : Int32 := bkX mu (nI w)
def H_jd (mu : ab_mem) : Int32 := jdF (bkX mu (mu 4 3)) 0 24
def H_ar (w : Int32) (mu : ab_mem) : Int32 := if w = 0 then (arX (bkX mu (mu 4 3)) 24).1 else nI (arX (bkX mu (mu 4 3)) 24).2
def H_od (w : Int32) (mu : ab_mem) : Int64 := odR (oTX mu 4 5) (256 ^ 5) w
def H_q (i : Int32) (mu : ab_mem) (g : Nat) : Int32 := qR (mu 5) (mu 6) (mu 4 2) (mu 4 3) (mu 4 4) (bX mu (1 - g) 0 99 24) 9 (9 + 1 - 2) (lvX mu g 2) i
def H_fo (w : Int32) (mu : ab_mem) : Int32 := frR (mu 5) (mu 4 2) (mu 4 4) 6 (lvX mu 0 3) (lvX mu 1 3) w
def H_ul (mu : ab_mem) : Int32 := usX mu 3
def H_pa (g : Nat) (mu : ab_mem) : Int32 := ((bX mu g 0 99 24 <<< ((1 : Int32) &&& 31)) &&& bX mu (1 - g) 0 99 24) &&& (bX mu g 0 99 24 ^^^ -1)
def H_tr (mu : ab_mem) (w : Nat) : Int32 := if nI w = 0 then lkX3 mu 0 0 else if nI w = 1 then (trX (lkX3 mu 0) 24).2 else (trX (lkX3 mu 0) 24).1
theorem chX_p {mu mu2 : ab_mem} (h : pX mu2 = pX mu) {g : Nat} (hg : g < 3) : chX mu2 g = chX mu g := by funext k; unfold chX; rw [lX_p h hg, dX_p h hg]
theorem cNX_p {mu mu2 : ab_mem} (h : pX mu2 = pX mu) {g : Nat} (hg : g < 3) : cNX mu2 g = cNX mu g := by funext k; unfold cNX; rw [chX_p h hg]
theorem agX_p {mu mu2 : ab_mem} (h : pX mu2 = pX mu) {g : Nat} (hg : g < 3) : agX mu2 g = agX mu g := by funext k; unfold agX; rw [bX_p h hg, kX_p h, pX_at h 8 rfl, pX_at h 9 rfl, pX_at h 10 rfl]
theorem bkX_p {mu mu2 : ab_mem} (h : pX mu2 = pX mu) : bkX mu2 = bkX mu := by funext w; unfold bkX; rw [bX_p h (g := 0) (by decide), bX_p h (g := 1) (by decide)]
theorem lvX_p {mu mu2 : ab_mem} (h : pX mu2 = pX mu) {g : Nat} (hg : g < 3) : lvX mu2 g = lvX mu g := by funext k; unfold lvX; rw [lX_p h hg]
theorem lkX3_p {mu mu2 : ab_mem} (h : pX mu2 = pX mu) {g : Nat} (hg : g < 3) : lkX3 mu2 g = lkX3 mu g := by unfold lkX3; rw [lkX2_p h, bX_p h hg]
theorem oTX_p {mu mu2 : ab_mem} (h : pX mu2 = pX mu) {k : Nat} : ∀ n, oTX mu2 k n = oTX mu k n := by
  intro n
  induction n with
  | zero => rfl
  | succ n ih => rw [oTX, oTX, ih, cNX_p h (g := 0) (by decide), cNX_p h (g := 1) (by decide)]
theorem usX_p {mu mu2 : ab_mem} (h : pX mu2 = pX mu) : ∀ n, n ≤ 3 → usX mu2 n = usX mu n := by
  intro n
  induction n with
  | zero => intro _; rfl
  | succ n ih => intro hn; rw [usX, usX, ih (by omega), bX_p h (g := n) (by omega), kX_p h, pX_at h 8 rfl, pX_at h 9 rfl, pX_at h 10 rfl]
theorem psX_p {mu mu2 : ab_mem} (h : pX mu2 = pX mu) {g : Nat} (hg : g < 3) : psX mu2 g = psX mu g := by unfold psX; rw [pX_at h 6 rfl, fX_p h hg, tX_p h hg]
theorem H_flt_p {mu mu2 : ab_mem} (h : pX mu2 = pX mu) {g : Nat} (hg : g < 3) : H_flt mu2 g = H_flt mu g := by unfold H_flt; rw [pX_at h _ (scG hg).1]
theorem H_hic_p {mu mu2 : ab_mem} (h : pX mu2 = pX mu) {g : Nat} (hg : g < 3) : H_hic mu2 g = H_hic mu g := by unfold H_hic; rw [bX_p h hg]
theorem H_lv_p {k : Nat} {mu mu2 : ab_mem} (h : pX mu2 = pX mu) {g : Nat} (hg : g < 3) : H_lv k mu2 g = H_lv k mu g := by unfold H_lv; rw [lX_p h hg]
theorem H_hrd_p {mu mu2 : ab_mem} (h : pX mu2 = pX mu) {g : Nat} (hg : g < 3) : H_hrd mu2 g = H_hrd mu g := by unfold H_hrd; rw [chX_p h hg]
theorem H_frt_p {mu mu2 : ab_mem} (h : pX mu2 = pX mu) {g : Nat} (hg : g < 3) : H_frt mu2 g = H_frt mu g := by unfold H_frt; rw [agX_p h hg]
theorem H_bk_p {mu mu2 : ab_mem} (h : pX mu2 = pX mu) {g : Nat} : H_bk mu2 g = H_bk mu g := by unfold H_bk; rw [bkX_p h]
theorem H_jd_p {mu mu2 : ab_mem} (h : pX mu2 = pX mu) : H_jd mu2 = H_jd mu := by unfold H_jd; rw [bkX_p h, pX_at h 4 rfl]
theorem H_ar_p {w : Int32} {mu mu2 : ab_mem} (h : pX mu2 = pX mu) : H_ar w mu2 = H_ar w mu := by unfold H_ar; rw [bkX_p h, pX_at h 4 rfl]
theorem H_od_p {w : Int32} {mu mu2 : ab_mem} (h : pX mu2 = pX mu) : H_od w mu2 = H_od w mu := by unfold H_od; rw [oTX_p h]
theorem H_q_p {i : Int32} {mu mu2 : ab_mem} (h : pX mu2 = pX mu) {g : Nat} (hg : g < 2) : H_q i mu2 g = H_q i mu g := by unfold H_q; rw [bX_p h (g := 1 - g) (by omega), lvX_p h (g := g) (by omega), pX_at h 4 rfl, pX_at h 5 rfl, pX_at h 6 rfl]
theorem H_fo_p {w : Int32} {mu mu2 : ab_mem} (h : pX mu2 = pX mu) : H_fo w mu2 = H_fo w mu := by unfold H_fo; rw [lvX_p h (g := 0) (by omega), lvX_p h (g := 1) (by omega), pX_at h 4 rfl, pX_at h 5 rfl]
theorem H_ul_p {mu mu2 : ab_mem} (h : pX mu2 = pX mu) : H_ul mu2 = H_ul mu := usX_p h 3 (by decide)
theorem H_pa_p {g : Nat} {mu mu2 : ab_mem} (h : pX mu2 = pX mu) (hg : g < 2) : H_pa g mu2 = H_pa g mu := by unfold H_pa; rw [bX_p h (g := 1 - g) (by omega), bX_p h (g := g) (by omega)]
theorem H_tr_p {w : Nat} {mu mu2 : ab_mem} (h : pX mu2 = pX mu) : H_tr mu2 w = H_tr mu w := by unfold H_tr; rw [lkX3_p h (g := 0) (by decide)]
theorem cntX_p {j : Nat} {mu mu2 : ab_mem} (h : pX mu2 = pX mu) : cntX mu2 j = cntX mu j := by
  unfold cntX
  rw [psX_p h (g := 0) (by decide), psX_p h (g := 1) (by decide), pX_at h 4 rfl, pX_at h 7 rfl, pX_at h 0 rfl]
  split
  · rename_i hj; rw [tX_p h hj]
  · rfl
abbrev rm_X7_digest : Room := { frames := 6, cells := 0, slots := 0, locals := 153 }
theorem k_X7_digest_273 : KV RX7 wsX7_digest rm_X7_digest 273 RX7 yX7_count wsX7_count rm_X7_count 1 := ⟨_, _, _, _, gX7_digest_X7_count, rfl, rfl, rfl, by decide +kernel, by decide⟩
theorem k_X7_digest_276 : KV RX7 wsX7_digest rm_X7_digest 276 RX7 yX7_fault wsX7_fault rm_X7_fault 1 := ⟨_, _, _, _, gX7_digest_X7_fault, rfl, rfl, rfl, by decide +kernel, by decide⟩
theorem k_X7_digest_279 : KV RX7 wsX7_digest rm_X7_digest 279 RX7 yX7_hiccups wsX7_hiccups rm_X7_hiccups 1 := ⟨_, _, _, _, gX7_digest_X7_hiccups, rfl, rfl, rfl, by decide +kernel, by decide⟩
theorem k_X7_digest_282 : KV RX7 wsX7_digest rm_X7_digest 282 RX7 yX7_level wsX7_level rm_X7_level 2 := ⟨_, _, _, _, gX7_digest_X7_level, rfl, rfl, rfl, by decide +kernel, by decide⟩
theorem k_X7_digest_285 : KV RX7 wsX7_digest rm_X7_digest 285 RX7 yX7_heard wsX7_heard rm_X7_heard 2 := ⟨_, _, _, _, gX7_digest_X7_heard, rfl, rfl, rfl, by decide +kernel, by decide⟩
theorem k_X7_digest_288 : KV RX7 wsX7_digest rm_X7_digest 288 RX7 yX7_fright wsX7_fright rm_X7_fright 1 := ⟨_, _, _, _, gX7_digest_X7_fright, rfl, rfl, rfl, by decide +kernel, by decide⟩
theorem k_X7_digest_291 : KV RX7 wsX7_digest rm_X7_digest 291 RX7 yX7_broken wsX7_broken rm_X7_broken 1 := ⟨_, _, _, _, gX7_digest_X7_broken, rfl, rfl, rfl, by decide +kernel, by decide⟩
theorem k_X7_digest_294 : KV RX7 wsX7_digest rm_X7_digest 294 RX7 yX7_judged wsX7_judged rm_X7_judged 0 := ⟨_, _, _, _, gX7_digest_X7_judged, rfl, rfl, rfl, by decide +kernel, by decide⟩
theorem k_X7_digest_297 : KV RX7 wsX7_digest rm_X7_digest 297 RX7 yX7_armistice wsX7_armistice rm_X7_armistice 1 := ⟨_, _, _, _, gX7_digest_X7_armistice, rfl, rfl, rfl, by decide +kernel, by decide⟩
theorem k_X7_digest_300 : KV RX7 wsX7_digest rm_X7_digest 300 RX7 yX7_odds wsX7_odds rm_X7_odds 3 := ⟨_, _, _, _, gX7_digest_X7_odds, rfl, rfl, rfl, by decide +kernel, by decide⟩
theorem k_X7_digest_304 : KV RX7 wsX7_digest rm_X7_digest 304 RX7 yX7_quiet wsX7_quiet rm_X7_quiet 4 := ⟨_, _, _, _, gX7_digest_X7_quiet, rfl, rfl, rfl, by decide +kernel, by decide⟩
theorem k_X7_digest_308 : KV RX7 wsX7_digest rm_X7_digest 308 RX7 yX7_force wsX7_force rm_X7_force 3 := ⟨_, _, _, _, gX7_digest_X7_force, rfl, rfl, rfl, by decide +kernel, by decide⟩
theorem k_X7_digest_311 : KV RX7 wsX7_digest rm_X7_digest 311 RX7 yX7_unlike wsX7_unlike rm_X7_unlike 0 := ⟨_, _, _, _, gX7_digest_X7_unlike, rfl, rfl, rfl, by decide +kernel, by decide⟩
theorem k_X7_digest_314 : KV RX7 wsX7_digest rm_X7_digest 314 RX7 yX7_parrot wsX7_parrot rm_X7_parrot 1 := ⟨_, _, _, _, gX7_digest_X7_parrot, rfl, rfl, rfl, by decide +kernel, by decide⟩
theorem k_X7_digest_317 : KV RX7 wsX7_digest rm_X7_digest 317 RX7 yX7_trained wsX7_trained rm_X7_trained 2 := ⟨_, _, _, _, gX7_digest_X7_trained, rfl, rfl, rfl, by decide +kernel, by decide⟩

set_option maxHeartbeats 1000000 in
set_option maxRecDepth 100000 in
theorem c_X7_digest {l : Launch} {V : ab_V} {mu : ab_mem}  (hV : OKX V) (hi : IX mu) : CT l V ShX yX7_digest wsX7_digest rm_X7_digest [.ref (aL V 0)] mu (pL (fun r mu2 => r = dgAll (cntX mu) (H_flt mu) (H_hic mu) (H_lv 0 mu) (H_lv 9 mu) (H_lv 23 mu) (H_hrd mu) (H_frt mu) (H_bk mu) (H_jd mu) (H_ar 0 mu) (H_ar 1 mu) (H_od 0 mu) (H_od 1 mu) (H_q (-1) mu) (H_q 0 mu) (H_fo 0 mu) (H_fo 1 mu) (H_ul mu) (H_pa 0 mu) (H_pa 1 mu) (H_tr mu) ∧ pX mu2 = pX mu)) := by
  refine ab_enter hV.1 (by decide) rfl (Nat.le_of_ble_eq_true rfl) ?_
  intro X B E
  have B : CX X l rm_X7_digest RX7 cX7_digest wsX7_digest 4 V ShX := B
  show AW X V ShX 4 0 [some (.ref (aL V 0)), none, none, none] [] mu
  have l353 : ∀ (m j : Nat), j + m = 3 → ∀ mu1, pX mu1 = pX mu → AW X V ShX 4 353 [some (.ref (aL V 0)), some (.long (dgC (dg1 (dg1 (dg1 (dg1 (dg1 (dgE (dgL (dgL (dg1 (dg1 (dg1 (dgC (dgB (dgA (cntX mu)) (H_flt mu) (H_hic mu) (H_lv 0 mu) (H_lv 9 mu) (H_lv 23 mu) (H_hrd mu) (H_frt mu) 3) (H_bk mu) 3) (H_jd mu)) (H_ar 0 mu)) (H_ar 1 mu)) (H_od 0 mu)) (H_od 1 mu)) (H_q (-1) mu) (H_q 0 mu) 2) (H_fo 0 mu)) (H_fo 1 mu)) (H_ul mu)) (H_pa 0 mu)) (H_pa 1 mu)) (H_tr mu) j)), none, some (.int (nI j))] [] mu1 := by
    intro m
    induction m with
    | zero =>
      intro j hj mu1 hp
      have e : j = 3 := by omega
      subst e
      refine a_iload_n B dX7_digest_353 rfl ?_
      refine a_iconst (v := 2) B dX7_digest_354 (by decide) ?_
      refine a_icmp_gt_t (tgt := 378) B dX7_digest_355 (by decide) (by decide) ?_
      refine a_lload_n B dX7_digest_378 rfl ?_
      refine a_lreturn B E dX7_digest_379 ?_
      exact ⟨rfl, hp⟩
    | succ m ih =>
      intro j hj mu1 hp
      refine a_iload_n B dX7_digest_353 rfl ?_
      refine a_iconst (v := 2) B dX7_digest_354 (by decide) ?_
      refine a_icmp_gt_f (tgt := 378) B dX7_digest_355 (by decide) (Int32.not_lt.mpr (nI_le (a := j) (b := 2) (by omega) (by decide))) ?_
      refine a_ldc2 (v := 31) B (by decide +kernel) dX7_digest_358 ?_
      refine a_lload_n B dX7_digest_361 rfl ?_
      refine a_lmul B dX7_digest_362 ?_
      refine a_aload_n B dX7_digest_363 rfl ?_
      refine a_iconst (v := 0) B dX7_digest_364 (by decide) ?_
      refine a_iload_n B dX7_digest_365 rfl ?_
      refine a_callVi B k_X7_digest_317 (c_X7_trained (g := 0) (w := nI j) hV (IX_p hp hi) (by decide) (inB_nI (n := 2) (by omega) (by decide))) (by first | rfl | assumption) rfl rfl rfl (Nat.le_of_ble_eq_true rfl) dX7_digest_366 (fun r366 mu366 h366 => ?_)
      obtain ⟨er, hq⟩ := h366
      replace er := er.trans (H_tr_p (w := j) hp)
      subst er
      replace hp := hq.trans hp
      refine a_i2l B dX7_digest_369 ?_
      refine a_ladd B dX7_digest_370 ?_
      rw [← dg1_eq]
      refine a_lstore_n B dX7_digest_371 (by decide) ?_
      refine a_iinc (v := 1) B dX7_digest_372 rfl (by decide) (by decide) ?_
      refine a_goto (tgt := 353) B dX7_digest_375 (by decide) ?_
      rw [nI_1]
      have z := ih (j + 1) (by omega) _ hp
      rw [dgC_s] at z
      exact z
  have k281 : ∀ mu1, pX mu1 = pX mu → ∀ x3, AW X V ShX 4 281 [some (.ref (aL V 0)), some (.long (dgE (dgL (dgL (dg1 (dg1 (dg1 (dgC (dgB (dgA (cntX mu)) (H_flt mu) (H_hic mu) (H_lv 0 mu) (H_lv 9 mu) (H_lv 23 mu) (H_hrd mu) (H_frt mu) 3) (H_bk mu) 3) (H_jd mu)) (H_ar 0 mu)) (H_ar 1 mu)) (H_od 0 mu)) (H_od 1 mu)) (H_q (-1) mu) (H_q 0 mu) 2)), none, some (.int x3)] [] mu1 := by
    intro mu1 hp x3
    refine a_ldc2 (v := 31) B (by decide +kernel) dX7_digest_281 ?_
    refine a_lload_n B dX7_digest_284 rfl ?_
    refine a_lmul B dX7_digest_285 ?_
    refine a_aload_n B dX7_digest_286 rfl ?_
    refine a_iconst (v := 3) B dX7_digest_287 (by decide) ?_
    refine a_bipush (v := 6) B dX7_digest_288 (by decide) ?_
    refine a_iconst (v := 0) B dX7_digest_290 (by decide) ?_
    refine a_callVi B k_X7_digest_308 (c_X7_force (h := 3) (n := 6) (w := 0) hV (IX_p hp hi) (by decide) (by decide) (by decide) (by decide) (by decide)) (by first | rfl | assumption) rfl rfl rfl (Nat.le_of_ble_eq_true rfl) dX7_digest_291 (fun r291 mu291 h291 => ?_)
    obtain ⟨er, hq⟩ := h291
    replace er := er.trans (H_fo_p (w := 0) hp)
    subst er
    replace hp := hq.trans hp
    refine a_i2l B dX7_digest_294 ?_
    refine a_ladd B dX7_digest_295 ?_
    rw [← dg1_eq]
    refine a_lstore_n B dX7_digest_296 (by decide) ?_
    show AW _ _ _ _ _ [some (.ref _), some (.long _), none, some (.int _)] _ _
    refine a_ldc2 (v := 31) B (by decide +kernel) dX7_digest_297 ?_
    refine a_lload_n B dX7_digest_300 rfl ?_
    refine a_lmul B dX7_digest_301 ?_
    refine a_aload_n B dX7_digest_302 rfl ?_
    refine a_iconst (v := 3) B dX7_digest_303 (by decide) ?_
    refine a_bipush (v := 6) B dX7_digest_304 (by decide) ?_
    refine a_iconst (v := 1) B dX7_digest_306 (by decide) ?_
    refine a_callVi B k_X7_digest_308 (c_X7_force (h := 3) (n := 6) (w := 1) hV (IX_p hp hi) (by decide) (by decide) (by decide) (by decide) (by decide)) (by first | rfl | assumption) rfl rfl rfl (Nat.le_of_ble_eq_true rfl) dX7_digest_307 (fun r307 mu307 h307 => ?_)
    obtain ⟨er, hq⟩ := h307
    replace er := er.trans (H_fo_p (w := 1) hp)
    subst er
    replace hp := hq.trans hp
    refine a_i2l B dX7_digest_310 ?_
    refine a_ladd B dX7_digest_311 ?_
    rw [← dg1_eq]
    refine a_lstore_n B dX7_digest_312 (by decide) ?_
    show AW _ _ _ _ _ [some (.ref _), some (.long _), none, some (.int _)] _ _
    refine a_ldc2 (v := 31) B (by decide +kernel) dX7_digest_313 ?_
    refine a_lload_n B dX7_digest_316 rfl ?_
    refine a_lmul B dX7_digest_317 ?_
    refine a_aload_n B dX7_digest_318 rfl ?_
    refine a_callVi B k_X7_digest_311 (c_X7_unlike hV (IX_p hp hi)) (by first | rfl | assumption) rfl rfl rfl (Nat.le_of_ble_eq_true rfl) dX7_digest_319 (fun r319 mu319 h319 => ?_)
    obtain ⟨er, hq⟩ := h319
    replace er := er.trans (H_ul_p hp)
    subst er
    replace hp := hq.trans hp
    refine a_i2l B dX7_digest_322 ?_
    refine a_ladd B dX7_digest_323 ?_
    rw [← dg1_eq]
    refine a_lstore_n B dX7_digest_324 (by decide) ?_
    show AW _ _ _ _ _ [some (.ref _), some (.long _), none, some (.int _)] _ _
    refine a_ldc2 (v := 31) B (by decide +kernel) dX7_digest_325 ?_
    refine a_lload_n B dX7_digest_328 rfl ?_
    refine a_lmul B dX7_digest_329 ?_
    refine a_aload_n B dX7_digest_330 rfl ?_
    refine a_iconst (v := 0) B dX7_digest_331 (by decide) ?_
    refine a_callVi B k_X7_digest_314 (c_X7_parrot (g := 0) hV (IX_p hp hi) (by decide)) (by first | rfl | assumption) rfl rfl rfl (Nat.le_of_ble_eq_true rfl) dX7_digest_332 (fun r332 mu332 h332 => ?_)
    obtain ⟨er, hq⟩ := h332
    replace er := er.trans (H_pa_p (g := 0) hp (by decide))
    subst er
    replace hp := hq.trans hp
    refine a_i2l B dX7_digest_335 ?_
    refine a_ladd B dX7_digest_336 ?_
    rw [← dg1_eq]
    refine a_lstore_n B dX7_digest_337 (by decide) ?_
    show AW _ _ _ _ _ [some (.ref _), some (.long _), none, some (.int _)] _ _
    refine a_ldc2 (v := 31) B (by decide +kernel) dX7_digest_338 ?_
    refine a_lload_n B dX7_digest_341 rfl ?_
    refine a_lmul B dX7_digest_342 ?_
    refine a_aload_n B dX7_digest_343 rfl ?_
    refine a_iconst (v := 1) B dX7_digest_344 (by decide) ?_
    refine a_callVi B k_X7_digest_314 (c_X7_parrot (g := 1) hV (IX_p hp hi) (by decide)) (by first | rfl | assumption) rfl rfl rfl (Nat.le_of_ble_eq_true rfl) dX7_digest_345 (fun r345 mu345 h345 => ?_)
    obtain ⟨er, hq⟩ := h345
    replace er := er.trans (H_pa_p (g := 1) hp (by decide))
    subst er
    replace hp := hq.trans hp
    refine a_i2l B dX7_digest_348 ?_
    refine a_ladd B dX7_digest_349 ?_
    rw [← dg1_eq]
    refine a_lstore_n B dX7_digest_350 (by decide) ?_
    show AW _ _ _ _ _ [some (.ref _), some (.long _), none, some (.int _)] _ _
    refine a_iconst (v := 0) B dX7_digest_351 (by decide) ?_
    refine a_istore_n B dX7_digest_352 (by decide) ?_
    have z := l353 3 0 rfl _ hp
    rw [dgC_0] at z
    exact z
  have l236 : ∀ (m j : Nat), j + m = 2 → ∀ mu1, pX mu1 = pX mu → AW X V ShX 4 236 [some (.ref (aL V 0)), some (.long (dgE (dgL (dgL (dg1 (dg1 (dg1 (dgC (dgB (dgA (cntX mu)) (H_flt mu) (H_hic mu) (H_lv 0 mu) (H_lv 9 mu) (H_lv 23 mu) (H_hrd mu) (H_frt mu) 3) (H_bk mu) 3) (H_jd mu)) (H_ar 0 mu)) (H_ar 1 mu)) (H_od 0 mu)) (H_od 1 mu)) (H_q (-1) mu) (H_q 0 mu) j)), none, some (.int (nI j))] [] mu1 := by
    intro m
    induction m with
    | zero =>
      intro j hj mu1 hp
      have e : j = 2 := by omega
      subst e
      refine a_iload_n B dX7_digest_236 rfl ?_
      refine a_iconst (v := 2) B dX7_digest_237 (by decide) ?_
      refine a_icmp_ge_t (tgt := 281) B dX7_digest_238 (by decide) (by decide) ?_
      exact k281 _ hp _
    | succ m ih =>
      intro j hj mu1 hp
      refine a_iload_n B dX7_digest_236 rfl ?_
      refine a_iconst (v := 2) B dX7_digest_237 (by decide) ?_
      refine a_icmp_ge_f (tgt := 281) B dX7_digest_238 (by decide) (nI_ge (a := j) (b := 2) (by omega) (by decide)) ?_
      refine a_ldc2 (v := 31) B (by decide +kernel) dX7_digest_241 ?_
      refine a_lload_n B dX7_digest_244 rfl ?_
      refine a_lmul B dX7_digest_245 ?_
      refine a_aload_n B dX7_digest_246 rfl ?_
      refine a_iload_n B dX7_digest_247 rfl ?_
      refine a_iconst (v := 2) B dX7_digest_248 (by decide) ?_
      refine a_bipush (v := 9) B dX7_digest_249 (by decide) ?_
      refine a_iconst (v := -1) B dX7_digest_251 (by decide) ?_
      refine a_callVi B k_X7_digest_304 (c_X7_quiet (fr := 2) (to := 9) (i := -1) hV (IX_p hp hi) (by omega) (by decide) (by decide) (Or.inl rfl)) (by first | rfl | assumption) rfl rfl rfl (Nat.le_of_ble_eq_true rfl) dX7_digest_252 (fun r252 mu252 h252 => ?_)
      obtain ⟨er, hq⟩ := h252
      replace er := er.trans (H_q_p (i := -1) hp (by omega))
      subst er
      replace hp := hq.trans hp
      refine a_i2l B dX7_digest_255 ?_
      refine a_ladd B dX7_digest_256 ?_
      rw [← dg1_eq]
      refine a_lstore_n B dX7_digest_257 (by decide) ?_
      show AW _ _ _ _ _ [some (.ref _), some (.long _), none, some (.int _)] _ _
      refine a_ldc2 (v := 31) B (by decide +kernel) dX7_digest_258 ?_
      refine a_lload_n B dX7_digest_261 rfl ?_
      refine a_lmul B dX7_digest_262 ?_
      refine a_aload_n B dX7_digest_263 rfl ?_
      refine a_iload_n B dX7_digest_264 rfl ?_
      refine a_iconst (v := 2) B dX7_digest_265 (by decide) ?_
      refine a_bipush (v := 9) B dX7_digest_266 (by decide) ?_
      refine a_iconst (v := 0) B dX7_digest_268 (by decide) ?_
      refine a_callVi B k_X7_digest_304 (c_X7_quiet (fr := 2) (to := 9) (i := 0) hV (IX_p hp hi) (by omega) (by decide) (by decide) (Or.inr ⟨0, by decide, rfl⟩)) (by first | rfl | assumption) rfl rfl rfl (Nat.le_of_ble_eq_true rfl) dX7_digest_269 (fun r269 mu269 h269 => ?_)
      obtain ⟨er, hq⟩ := h269
      replace er := er.trans (H_q_p (i := 0) hp (by omega))
      subst er
      replace hp := hq.trans hp
      refine a_i2l B dX7_digest_272 ?_
      refine a_ladd B dX7_digest_273 ?_
      rw [← dg1_eq]
      refine a_lstore_n B dX7_digest_274 (by decide) ?_
      show AW _ _ _ _ _ [some (.ref _), some (.long _), none, some (.int _)] _ _
      refine a_iinc (v := 1) B dX7_digest_275 rfl (by decide) (by decide) ?_
      refine a_goto (tgt := 236) B dX7_digest_278 (by decide) ?_
      rw [nI_1]
      have z := ih (j + 1) (by omega) _ hp
      rw [dgE_s] at z
      exact z
  have k168 : ∀ mu1, pX mu1 = pX mu → ∀ x3, AW X V ShX 4 168 [some (.ref (aL V 0)), some (.long (dgC (dgB (dgA (cntX mu)) (H_flt mu) (H_hic mu) (H_lv 0 mu) (H_lv 9 mu) (H_lv 23 mu) (H_hrd mu) (H_frt mu) 3) (H_bk mu) 3)), none, some (.int x3)] [] mu1 := by
    intro mu1 hp x3
    refine a_ldc2 (v := 31) B (by decide +kernel) dX7_digest_168 ?_
    refine a_lload_n B dX7_digest_171 rfl ?_
    refine a_lmul B dX7_digest_172 ?_
    refine a_aload_n B dX7_digest_173 rfl ?_
    refine a_callVi B k_X7_digest_294 (c_X7_judged hV (IX_p hp hi)) (by first | rfl | assumption) rfl rfl rfl (Nat.le_of_ble_eq_true rfl) dX7_digest_174 (fun r174 mu174 h174 => ?_)
    obtain ⟨er, hq⟩ := h174
    replace er := er.trans (H_jd_p hp)
    subst er
    replace hp := hq.trans hp
    refine a_i2l B dX7_digest_177 ?_
    refine a_ladd B dX7_digest_178 ?_
    rw [← dg1_eq]
    refine a_lstore_n B dX7_digest_179 (by decide) ?_
    show AW _ _ _ _ _ [some (.ref _), some (.long _), none, some (.int _)] _ _
    refine a_ldc2 (v := 31) B (by decide +kernel) dX7_digest_180 ?_
    refine a_lload_n B dX7_digest_183 rfl ?_
    refine a_lmul B dX7_digest_184 ?_
    refine a_aload_n B dX7_digest_185 rfl ?_
    refine a_iconst (v := 0) B dX7_digest_186 (by decide) ?_
    refine a_callVi B k_X7_digest_297 (c_X7_armistice (w := 0) hV (IX_p hp hi) (by decide)) (by first | rfl | assumption) rfl rfl rfl (Nat.le_of_ble_eq_true rfl) dX7_digest_187 (fun r187 mu187 h187 => ?_)
    obtain ⟨er, hq⟩ := h187
    replace er := er.trans (H_ar_p (w := 0) hp)
    subst er
    replace hp := hq.trans hp
    refine a_i2l B dX7_digest_190 ?_
    refine a_ladd B dX7_digest_191 ?_
    rw [← dg1_eq]
    refine a_lstore_n B dX7_digest_192 (by decide) ?_
    show AW _ _ _ _ _ [some (.ref _), some (.long _), none, some (.int _)] _ _
    refine a_ldc2 (v := 31) B (by decide +kernel) dX7_digest_193 ?_
    refine a_lload_n B dX7_digest_196 rfl ?_
    refine a_lmul B dX7_digest_197 ?_
    refine a_aload_n B dX7_digest_198 rfl ?_
    refine a_iconst (v := 1) B dX7_digest_199 (by decide) ?_
    refine a_callVi B k_X7_digest_297 (c_X7_armistice (w := 1) hV (IX_p hp hi) (by decide)) (by first | rfl | assumption) rfl rfl rfl (Nat.le_of_ble_eq_true rfl) dX7_digest_200 (fun r200 mu200 h200 => ?_)
    obtain ⟨er, hq⟩ := h200
    replace er := er.trans (H_ar_p (w := 1) hp)
    subst er
    replace hp := hq.trans hp
    refine a_i2l B dX7_digest_203 ?_
    refine a_ladd B dX7_digest_204 ?_
    rw [← dg1_eq]
    refine a_lstore_n B dX7_digest_205 (by decide) ?_
    show AW _ _ _ _ _ [some (.ref _), some (.long _), none, some (.int _)] _ _
    refine a_ldc2 (v := 31) B (by decide +kernel) dX7_digest_206 ?_
    refine a_lload_n B dX7_digest_209 rfl ?_
    refine a_lmul B dX7_digest_210 ?_
    refine a_aload_n B dX7_digest_211 rfl ?_
    refine a_iconst (v := 4) B dX7_digest_212 (by decide) ?_
    refine a_iconst (v := 5) B dX7_digest_213 (by decide) ?_
    refine a_iconst (v := 0) B dX7_digest_214 (by decide) ?_
    refine a_callVl B k_X7_digest_300 (c_X7_odds (h := 4) (n := 5) (w := 0) hV (IX_p hp hi) (by decide) (by decide) (by decide) (by decide)) (by first | rfl | assumption) rfl rfl rfl (Nat.le_of_ble_eq_true rfl) dX7_digest_215 (fun r215 mu215 h215 => ?_)
    obtain ⟨er, hq⟩ := h215
    replace er := er.trans (H_od_p (w := 0) hp)
    subst er
    replace hp := hq.trans hp
    refine a_ladd B dX7_digest_218 ?_
    rw [← dgL_eq]
    refine a_lstore_n B dX7_digest_219 (by decide) ?_
    show AW _ _ _ _ _ [some (.ref _), some (.long _), none, some (.int _)] _ _
    refine a_ldc2 (v := 31) B (by decide +kernel) dX7_digest_220 ?_
    refine a_lload_n B dX7_digest_223 rfl ?_
    refine a_lmul B dX7_digest_224 ?_
    refine a_aload_n B dX7_digest_225 rfl ?_
    refine a_iconst (v := 4) B dX7_digest_226 (by decide) ?_
    refine a_iconst (v := 5) B dX7_digest_227 (by decide) ?_
    refine a_iconst (v := 1) B dX7_digest_228 (by decide) ?_
    refine a_callVl B k_X7_digest_300 (c_X7_odds (h := 4) (n := 5) (w := 1) hV (IX_p hp hi) (by decide) (by decide) (by decide) (by decide)) (by first | rfl | assumption) rfl rfl rfl (Nat.le_of_ble_eq_true rfl) dX7_digest_229 (fun r229 mu229 h229 => ?_)
    obtain ⟨er, hq⟩ := h229
    replace er := er.trans (H_od_p (w := 1) hp)
    subst er
    replace hp := hq.trans hp
    refine a_ladd B dX7_digest_232 ?_
    rw [← dgL_eq]
    refine a_lstore_n B dX7_digest_233 (by decide) ?_
    show AW _ _ _ _ _ [some (.ref _), some (.long _), none, some (.int _)] _ _
    refine a_iconst (v := 0) B dX7_digest_234 (by decide) ?_
    refine a_istore_n B dX7_digest_235 (by decide) ?_
    have z := l236 2 0 rfl _ hp
    rw [dgE_0] at z
    exact z
  have l144 : ∀ (m j : Nat), j + m = 3 → ∀ mu1, pX mu1 = pX mu → AW X V ShX 4 144 [some (.ref (aL V 0)), some (.long (dgC (dgB (dgA (cntX mu)) (H_flt mu) (H_hic mu) (H_lv 0 mu) (H_lv 9 mu) (H_lv 23 mu) (H_hrd mu) (H_frt mu) 3) (H_bk mu) j)), none, some (.int (nI j))] [] mu1 := by
    intro m
    induction m with
    | zero =>
      intro j hj mu1 hp
      have e : j = 3 := by omega
      subst e
      refine a_iload_n B dX7_digest_144 rfl ?_
      refine a_iconst (v := 3) B dX7_digest_145 (by decide) ?_
      refine a_icmp_ge_t (tgt := 168) B dX7_digest_146 (by decide) (by decide) ?_
      exact k168 _ hp _
    | succ m ih =>
      intro j hj mu1 hp
      refine a_iload_n B dX7_digest_144 rfl ?_
      refine a_iconst (v := 3) B dX7_digest_145 (by decide) ?_
      refine a_icmp_ge_f (tgt := 168) B dX7_digest_146 (by decide) (nI_ge (a := j) (b := 3) (by omega) (by decide)) ?_
      refine a_ldc2 (v := 31) B (by decide +kernel) dX7_digest_149 ?_
      refine a_lload_n B dX7_digest_152 rfl ?_
      refine a_lmul B dX7_digest_153 ?_
      refine a_aload_n B dX7_digest_154 rfl ?_
      refine a_iload_n B dX7_digest_155 rfl ?_
      refine a_callVi B k_X7_digest_291 (c_X7_broken (w := nI j) hV (IX_p hp hi) (inB_nI (n := 2) (by omega) (by decide))) (by first | rfl | assumption) rfl rfl rfl (Nat.le_of_ble_eq_true rfl) dX7_digest_156 (fun r156 mu156 h156 => ?_)
      obtain ⟨er, hq⟩ := h156
      replace er := er.trans (H_bk_p (g := j) hp)
      subst er
      replace hp := hq.trans hp
      refine a_i2l B dX7_digest_159 ?_
      refine a_ladd B dX7_digest_160 ?_
      rw [← dg1_eq]
      refine a_lstore_n B dX7_digest_161 (by decide) ?_
      refine a_iinc (v := 1) B dX7_digest_162 rfl (by decide) (by decide) ?_
      refine a_goto (tgt := 144) B dX7_digest_165 (by decide) ?_
      rw [nI_1]
      have z := ih (j + 1) (by omega) _ hp
      rw [dgC_s] at z
      exact z
  have k142 : ∀ mu1, pX mu1 = pX mu → ∀ x3, AW X V ShX 4 142 [some (.ref (aL V 0)), some (.long (dgB (dgA (cntX mu)) (H_flt mu) (H_hic mu) (H_lv 0 mu) (H_lv 9 mu) (H_lv 23 mu) (H_hrd mu) (H_frt mu) 3)), none, some (.int x3)] [] mu1 := by
    intro mu1 hp x3
    refine a_iconst (v := 0) B dX7_digest_142 (by decide) ?_
    refine a_istore_n B dX7_digest_143 (by decide) ?_
    have z := l144 3 0 rfl _ hp
    rw [dgC_0] at z
    exact z
  have l33 : ∀ (m j : Nat), j + m = 3 → ∀ mu1, pX mu1 = pX mu → AW X V ShX 4 33 [some (.ref (aL V 0)), some (.long (dgB (dgA (cntX mu)) (H_flt mu) (H_hic mu) (H_lv 0 mu) (H_lv 9 mu) (H_lv 23 mu) (H_hrd mu) (H_frt mu) j)), none, some (.int (nI j))] [] mu1 := by
    intro m
    induction m with
    | zero =>
      intro j hj mu1 hp
      have e : j = 3 := by omega
      subst e
      refine a_iload_n B dX7_digest_33 rfl ?_
      refine a_iconst (v := 3) B dX7_digest_34 (by decide) ?_
      refine a_icmp_ge_t (tgt := 142) B dX7_digest_35 (by decide) (by decide) ?_
      exact k142 _ hp _
    | succ m ih =>
      intro j hj mu1 hp
      refine a_iload_n B dX7_digest_33 rfl ?_
      refine a_iconst (v := 3) B dX7_digest_34 (by decide) ?_
      refine a_icmp_ge_f (tgt := 142) B dX7_digest_35 (by decide) (nI_ge (a := j) (b := 3) (by omega) (by decide)) ?_
      refine a_ldc2 (v := 31) B (by decide +kernel) dX7_digest_38 ?_
      refine a_lload_n B dX7_digest_41 rfl ?_
      refine a_lmul B dX7_digest_42 ?_
      refine a_aload_n B dX7_digest_43 rfl ?_
      refine a_iload_n B dX7_digest_44 rfl ?_
      refine a_callVi B k_X7_digest_276 (c_X7_fault hV (g := j) (by omega)) (by first | rfl | assumption) rfl rfl rfl (Nat.le_of_ble_eq_true rfl) dX7_digest_45 (fun r45 mu45 h45 => ?_)
      obtain ⟨er, hq⟩ := h45
      subst hq
      replace er := er.trans (H_flt_p hp (by omega))
      subst er
      refine a_i2l B dX7_digest_48 ?_
      refine a_ladd B dX7_digest_49 ?_
      rw [← dg1_eq]
      refine a_lstore_n B dX7_digest_50 (by decide) ?_
      show AW _ _ _ _ _ [some (.ref _), some (.long _), none, some (.int _)] _ _
      refine a_ldc2 (v := 31) B (by decide +kernel) dX7_digest_51 ?_
      refine a_lload_n B dX7_digest_54 rfl ?_
      refine a_lmul B dX7_digest_55 ?_
      refine a_aload_n B dX7_digest_56 rfl ?_
      refine a_iload_n B dX7_digest_57 rfl ?_
      refine a_callVi B k_X7_digest_279 (c_X7_hiccups hV (IX_p hp hi) (by omega)) (by first | rfl | assumption) rfl rfl rfl (Nat.le_of_ble_eq_true rfl) dX7_digest_58 (fun r58 mu58 h58 => ?_)
      obtain ⟨er, hq⟩ := h58
      replace er := er.trans (H_hic_p hp (by omega))
      subst er
      replace hp := hq.trans hp
      refine a_i2l B dX7_digest_61 ?_
      refine a_ladd B dX7_digest_62 ?_
      rw [← dg1_eq]
      refine a_lstore_n B dX7_digest_63 (by decide) ?_
      show AW _ _ _ _ _ [some (.ref _), some (.long _), none, some (.int _)] _ _
      refine a_ldc2 (v := 31) B (by decide +kernel) dX7_digest_64 ?_
      refine a_lload_n B dX7_digest_67 rfl ?_
      refine a_lmul B dX7_digest_68 ?_
      refine a_aload_n B dX7_digest_69 rfl ?_
      refine a_iload_n B dX7_digest_70 rfl ?_
      refine a_iconst (v := 0) B dX7_digest_71 (by decide) ?_
      refine a_callVi B k_X7_digest_282 (c_X7_level (h := 0) hV (IX_p hp hi) (by omega) (by decide)) (by first | rfl | assumption) rfl rfl rfl (Nat.le_of_ble_eq_true rfl) dX7_digest_72 (fun r72 mu72 h72 => ?_)
      obtain ⟨er, hq⟩ := h72
      replace er := er.trans (H_lv_p (k := 0) hp (by omega))
      subst er
      replace hp := hq.trans hp
      refine a_i2l B dX7_digest_75 ?_
      refine a_ladd B dX7_digest_76 ?_
      rw [← dg1_eq]
      refine a_lstore_n B dX7_digest_77 (by decide) ?_
      show AW _ _ _ _ _ [some (.ref _), some (.long _), none, some (.int _)] _ _
      refine a_ldc2 (v := 31) B (by decide +kernel) dX7_digest_78 ?_
      refine a_lload_n B dX7_digest_81 rfl ?_
      refine a_lmul B dX7_digest_82 ?_
      refine a_aload_n B dX7_digest_83 rfl ?_
      refine a_iload_n B dX7_digest_84 rfl ?_
      refine a_bipush (v := 9) B dX7_digest_85 (by decide) ?_
      refine a_callVi B k_X7_digest_282 (c_X7_level (h := 9) hV (IX_p hp hi) (by omega) (by decide)) (by first | rfl | assumption) rfl rfl rfl (Nat.le_of_ble_eq_true rfl) dX7_digest_87 (fun r87 mu87 h87 => ?_)
      obtain ⟨er, hq⟩ := h87
      replace er := er.trans (H_lv_p (k := 9) hp (by omega))
      subst er
      replace hp := hq.trans hp
      refine a_i2l B dX7_digest_90 ?_
      refine a_ladd B dX7_digest_91 ?_
      rw [← dg1_eq]
      refine a_lstore_n B dX7_digest_92 (by decide) ?_
      show AW _ _ _ _ _ [some (.ref _), some (.long _), none, some (.int _)] _ _
      refine a_ldc2 (v := 31) B (by decide +kernel) dX7_digest_93 ?_
      refine a_lload_n B dX7_digest_96 rfl ?_
      refine a_lmul B dX7_digest_97 ?_
      refine a_aload_n B dX7_digest_98 rfl ?_
      refine a_iload_n B dX7_digest_99 rfl ?_
      refine a_bipush (v := 23) B dX7_digest_100 (by decide) ?_
      refine a_callVi B k_X7_digest_282 (c_X7_level (h := 23) hV (IX_p hp hi) (by omega) (by decide)) (by first | rfl | assumption) rfl rfl rfl (Nat.le_of_ble_eq_true rfl) dX7_digest_102 (fun r102 mu102 h102 => ?_)
      obtain ⟨er, hq⟩ := h102
      replace er := er.trans (H_lv_p (k := 23) hp (by omega))
      subst er
      replace hp := hq.trans hp
      refine a_i2l B dX7_digest_105 ?_
      refine a_ladd B dX7_digest_106 ?_
      rw [← dg1_eq]
      refine a_lstore_n B dX7_digest_107 (by decide) ?_
      show AW _ _ _ _ _ [some (.ref _), some (.long _), none, some (.int _)] _ _
      refine a_ldc2 (v := 31) B (by decide +kernel) dX7_digest_108 ?_
      refine a_lload_n B dX7_digest_111 rfl ?_
      refine a_lmul B dX7_digest_112 ?_
      refine a_aload_n B dX7_digest_113 rfl ?_
      refine a_iload_n B dX7_digest_114 rfl ?_
      refine a_bipush (v := 7) B dX7_digest_115 (by decide) ?_
      refine a_callVi B k_X7_digest_285 (c_X7_heard hV (IX_p hp hi) (by omega)) (by first | rfl | assumption) rfl rfl rfl (Nat.le_of_ble_eq_true rfl) dX7_digest_117 (fun r117 mu117 h117 => ?_)
      obtain ⟨er, hq⟩ := h117
      replace er := er.trans (H_hrd_p hp (by omega))
      subst er
      replace hp := hq.trans hp
      refine a_i2l B dX7_digest_120 ?_
      refine a_ladd B dX7_digest_121 ?_
      rw [← dg1_eq]
      refine a_lstore_n B dX7_digest_122 (by decide) ?_
      show AW _ _ _ _ _ [some (.ref _), some (.long _), none, some (.int _)] _ _
      refine a_ldc2 (v := 31) B (by decide +kernel) dX7_digest_123 ?_
      refine a_lload_n B dX7_digest_126 rfl ?_
      refine a_lmul B dX7_digest_127 ?_
      refine a_aload_n B dX7_digest_128 rfl ?_
      refine a_iload_n B dX7_digest_129 rfl ?_
      refine a_callVi B k_X7_digest_288 (c_X7_fright hV (IX_p hp hi) (by omega)) (by first | rfl | assumption) rfl rfl rfl (Nat.le_of_ble_eq_true rfl) dX7_digest_130 (fun r130 mu130 h130 => ?_)
      obtain ⟨er, hq⟩ := h130
      replace er := er.trans (H_frt_p hp (by omega))
      subst er
      replace hp := hq.trans hp
      refine a_i2l B dX7_digest_133 ?_
      refine a_ladd B dX7_digest_134 ?_
      rw [← dg1_eq]
      refine a_lstore_n B dX7_digest_135 (by decide) ?_
      show AW _ _ _ _ _ [some (.ref _), some (.long _), none, some (.int _)] _ _
      refine a_iinc (v := 1) B dX7_digest_136 rfl (by decide) (by decide) ?_
      refine a_goto (tgt := 33) B dX7_digest_139 (by decide) ?_
      rw [nI_1]
      have z := ih (j + 1) (by omega) _ hp
      rw [dgB_s] at z
      exact z
  have k31 : ∀ mu1, pX mu1 = pX mu → ∀ x3, AW X V ShX 4 31 [some (.ref (aL V 0)), some (.long (dgA (cntX mu))), none, some (.int x3)] [] mu1 := by
    intro mu1 hp x3
    refine a_iconst (v := 0) B dX7_digest_31 (by decide) ?_
    refine a_istore_n B dX7_digest_32 (by decide) ?_
    have z := l33 3 0 rfl _ hp
    rw [dgB_0] at z
    exact z
  have l6 : ∀ (m j : Nat), j + m = 8 → ∀ mu1, pX mu1 = pX mu → AW X V ShX 4 6 [some (.ref (aL V 0)), some (.long (dgC 17 (cntX mu) j)), none, some (.int (nI j))] [] mu1 := by
    intro m
    induction m with
    | zero =>
      intro j hj mu1 hp
      have e : j = 8 := by omega
      subst e
      refine a_iload_n B dX7_digest_6 rfl ?_
      refine a_bipush (v := 7) B dX7_digest_7 (by decide) ?_
      refine a_icmp_gt_t (tgt := 31) B dX7_digest_9 (by decide) (by decide) ?_
      rw [← dgA_e]
      exact k31 _ hp _
    | succ m ih =>
      intro j hj mu1 hp
      refine a_iload_n B dX7_digest_6 rfl ?_
      refine a_bipush (v := 7) B dX7_digest_7 (by decide) ?_
      refine a_icmp_gt_f (tgt := 31) B dX7_digest_9 (by decide) (Int32.not_lt.mpr (nI_le (a := j) (b := 7) (by omega) (by decide))) ?_
      refine a_ldc2 (v := 31) B (by decide +kernel) dX7_digest_12 ?_
      refine a_lload_n B dX7_digest_15 rfl ?_
      refine a_lmul B dX7_digest_16 ?_
      refine a_aload_n B dX7_digest_17 rfl ?_
      refine a_iload_n B dX7_digest_18 rfl ?_
      refine a_callVi B k_X7_digest_273 (c_X7_countN hV (IX_p hp hi) (by omega)) (by first | rfl | assumption) rfl rfl rfl (Nat.le_of_ble_eq_true rfl) dX7_digest_19 (fun r19 mu19 h19 => ?_)
      obtain ⟨er, hq⟩ := h19
      subst hq
      replace er := er.trans (cntX_p hp)
      subst er
      refine a_i2l B dX7_digest_22 ?_
      refine a_ladd B dX7_digest_23 ?_
      rw [← dg1_eq]
      refine a_lstore_n B dX7_digest_24 (by decide) ?_
      refine a_iinc (v := 1) B dX7_digest_25 rfl (by decide) (by decide) ?_
      refine a_goto (tgt := 6) B dX7_digest_28 (by decide) ?_
      rw [nI_1]
      have z := ih (j + 1) (by omega) _ hp
      rw [dgC_s] at z
      exact z
  refine a_ldc2 (v := 17) B (by decide +kernel) dX7_digest_0 ?_
  refine a_lstore_n B dX7_digest_3 (by decide) ?_
  refine a_iconst (v := 0) B dX7_digest_4 (by decide) ?_
  refine a_istore_n B dX7_digest_5 (by decide) ?_
  have z := l6 8 0 rfl mu rfl
  rw [dgC_0] at z
  exact z
