/-! digest: the same sum over both sides' answers -/
def dgN (h0 : Int64) (f : Nat → Int64 → Int64) : Nat → Int64
  | 0 => h0
  | j + 1 => f j (dgN h0 f j)
def dg1 (h : Int64) (x : Int32) : Int64 := 31 * h + x.toInt64
def dgL (h o : Int64) : Int64 := 31 * h + o
theorem dgL_eq (h o : Int64) : dgL h o = 31 * h + o := rfl
theorem dg1_eq (h : Int64) (x : Int32) : dg1 h x = 31 * h + x.toInt64 := rfl
def dgA (cnt : Nat → Int32) : Int64 := dgN 17 (fun j h => dg1 h (cnt j)) 8
def dgB (h0 : Int64) (flt hic l0 l9 l23 hrd frt : Nat → Int32) : Nat → Int64 := dgN h0 (fun g h => dg1 (dg1 (dg1 (dg1 (dg1 (dg1 (dg1 h (flt g)) (hic g)) (l0 g)) (l9 g)) (l23 g)) (hrd g)) (frt g))
def dgC (h0 : Int64) (bk : Nat → Int32) : Nat → Int64 := dgN h0 (fun w h => dg1 h (bk w))
def dgE (h0 : Int64) (q1 q2 : Nat → Int32) : Nat → Int64 := dgN h0 (fun g h => dg1 (dg1 h (q1 g)) (q2 g))
theorem dgB_0 {h0 : Int64} {flt hic l0 l9 l23 hrd frt : Nat → Int32} : dgB h0 flt hic l0 l9 l23 hrd frt 0 = h0 := rfl
theorem dgB_s {h0 : Int64} {flt hic l0 l9 l23 hrd frt : Nat → Int32} {g : Nat} : dgB h0 flt hic l0 l9 l23 hrd frt (g + 1) = dg1 (dg1 (dg1 (dg1 (dg1 (dg1 (dg1 (dgB h0 flt hic l0 l9 l23 hrd frt g) (flt g)) (hic g)) (l0 g)) (l9 g)) (l23 g)) (hrd g)) (frt g) := rfl
theorem dgC_0 {h0 : Int64} {bk : Nat → Int32} : dgC h0 bk 0 = h0 := rfl
theorem dgC_s {h0 : Int64} {bk : Nat → Int32} {w : Nat} : dgC h0 bk (w + 1) = dg1 (dgC h0 bk w) (bk w) := rfl
theorem dgE_0 {h0 : Int64} {q1 q2 : Nat → Int32} : dgE h0 q1 q2 0 = h0 := rfl
theorem dgE_s {h0 : Int64} {q1 q2 : Nat → Int32} {w : Nat} : dgE h0 q1 q2 (w + 1) = dg1 (dg1 (dgE h0 q1 q2 w) (q1 w)) (q2 w) := rfl
theorem dgA_e {cnt : Nat → Int32} : dgA cnt = dgC 17 cnt 8 := rfl
def dgAll (cnt flt hic l0 l9 l23 hrd frt bk : Nat → Int32) (jd a0 a1 : Int32) (o0 o1 : Int64) (q1 q2 : Nat → Int32) (f0 f1 ul p0 p1 : Int32) (tr : Nat → Int32) : Int64 :=
  dgC (dg1 (dg1 (dg1 (dg1 (dg1 (dgE (dgL (dgL (dg1 (dg1 (dg1 (dgC (dgB (dgA cnt) flt hic l0 l9 l23 hrd frt 3) bk 3) jd) a0) a1) o0) o1) q1 q2 2) f0) f1) ul) p0) p1) tr 3
def G_flt (mu : ab_mem) (g : Nat) : Int32 := fltF (fM mu g) 0 (nM mu g)
def G_hic (mu : ab_mem) (g : Nat) : Int32 := bM mu g 0 99 24
def G_lv (h : Nat) (mu : ab_mem) (g : Nat) : Int32 := lM mu g 0 99 (h + 1)
def G_hrd (mu : ab_mem) (g : Nat) : Int32 := (hdS g (chM mu g) 7 24).2
def G_frt (mu : ab_mem) (g : Nat) : Int32 := frF (agM mu g) 24
def G_bk (mu : ab_mem) (w : Nat) : Int32 := bkM mu (nI w)
def G_jd (mu : ab_mem) : Int32 := jdF (bkM mu (mu 0 6)) 0 24
def G_ar (w : Int32) (mu : ab_mem) : Int32 := if w = 0 then (arM (bkM mu (mu 0 6)) 24).1 else nI (arM (bkM mu (mu 0 6)) 24).2
def G_od (w : Int32) (mu : ab_mem) : Int64 := odR (oT mu 4 5) (256 ^ 5) w
def G_q (i : Int32) (mu : ab_mem) (g : Nat) : Int32 := qR (mu 4) (mu 5) (mu 0 5) (mu 0 6) (mu 0 7) (oM mu g) 9 (9 + 1 - 2) (lvN mu g 2) i
def G_fo (w : Int32) (mu : ab_mem) : Int32 := frR (mu 4) (mu 0 5) (mu 0 7) 6 (lvN mu 0 3) (lvN mu 1 3) w
def G_ul (mu : ab_mem) : Int32 := ulF (mu 11) (mu 12) (mu 13) (fun g => bM mu g 0 99 24) (kM mu)
def G_pa (g : Nat) (mu : ab_mem) : Int32 := (((bM mu g 0 99 24 <<< ((1 : Int32) &&& 31)) &&& bM mu (1 - g) 0 99 24) &&& (bM mu g 0 99 24 ^^^ -1)) &&& 16777215
def G_tr (mu : ab_mem) (w : Nat) : Int32 := if nI w = 0 then lkM mu 0 0 else if nI w = 1 then (trM (lkM mu 0) 24).2 else (trM (lkM mu 0) 24).1
theorem G_flt_p {mu mu2 : ab_mem} (h : pM mu2 = pM mu) : G_flt mu2 = G_flt mu := by
  show G_flt (pM mu2) = G_flt (pM mu)
  rw [h]
theorem G_hic_p {mu mu2 : ab_mem} (h : pM mu2 = pM mu) : G_hic mu2 = G_hic mu := by
  show G_hic (pM mu2) = G_hic (pM mu)
  rw [h]
theorem G_lv_0_p {mu mu2 : ab_mem} (h : pM mu2 = pM mu) : G_lv 0 mu2 = G_lv 0 mu := by
  show G_lv 0 (pM mu2) = G_lv 0 (pM mu)
  rw [h]
theorem G_lv_9_p {mu mu2 : ab_mem} (h : pM mu2 = pM mu) : G_lv 9 mu2 = G_lv 9 mu := by
  show G_lv 9 (pM mu2) = G_lv 9 (pM mu)
  rw [h]
theorem G_lv_23_p {mu mu2 : ab_mem} (h : pM mu2 = pM mu) : G_lv 23 mu2 = G_lv 23 mu := by
  show G_lv 23 (pM mu2) = G_lv 23 (pM mu)
  rw [h]
theorem G_hrd_p {mu mu2 : ab_mem} (h : pM mu2 = pM mu) : G_hrd mu2 = G_hrd mu := by
  show G_hrd (pM mu2) = G_hrd (pM mu)
  rw [h]
theorem G_frt_p {mu mu2 : ab_mem} (h : pM mu2 = pM mu) : G_frt mu2 = G_frt mu := by
  show G_frt (pM mu2) = G_frt (pM mu)
  rw [h]
theorem G_bk_p {mu mu2 : ab_mem} (h : pM mu2 = pM mu) : G_bk mu2 = G_bk mu := by
  show G_bk (pM mu2) = G_bk (pM mu)
  rw [h]
theorem G_jd_p {mu mu2 : ab_mem} (h : pM mu2 = pM mu) : G_jd mu2 = G_jd mu := by
  show G_jd (pM mu2) = G_jd (pM mu)
  rw [h]
theorem G_ar_0_p {mu mu2 : ab_mem} (h : pM mu2 = pM mu) : G_ar 0 mu2 = G_ar 0 mu := by
  show G_ar 0 (pM mu2) = G_ar 0 (pM mu)
  rw [h]
theorem G_ar_1_p {mu mu2 : ab_mem} (h : pM mu2 = pM mu) : G_ar 1 mu2 = G_ar 1 mu := by
  show G_ar 1 (pM mu2) = G_ar 1 (pM mu)
  rw [h]
theorem G_od_0_p {mu mu2 : ab_mem} (h : pM mu2 = pM mu) : G_od 0 mu2 = G_od 0 mu := by
  show G_od 0 (pM mu2) = G_od 0 (pM mu)
  rw [h]
theorem G_od_1_p {mu mu2 : ab_mem} (h : pM mu2 = pM mu) : G_od 1 mu2 = G_od 1 mu := by
  show G_od 1 (pM mu2) = G_od 1 (pM mu)
  rw [h]
theorem G_q_m_p {mu mu2 : ab_mem} (h : pM mu2 = pM mu) : G_q (-1) mu2 = G_q (-1) mu := by
  show G_q (-1) (pM mu2) = G_q (-1) (pM mu)
  rw [h]
theorem G_q_0_p {mu mu2 : ab_mem} (h : pM mu2 = pM mu) : G_q 0 mu2 = G_q 0 mu := by
  show G_q 0 (pM mu2) = G_q 0 (pM mu)
  rw [h]
theorem G_fo_0_p {mu mu2 : ab_mem} (h : pM mu2 = pM mu) : G_fo 0 mu2 = G_fo 0 mu := by
  show G_fo 0 (pM mu2) = G_fo 0 (pM mu)
  rw [h]
theorem G_fo_1_p {mu mu2 : ab_mem} (h : pM mu2 = pM mu) : G_fo 1 mu2 = G_fo 1 mu := by
  show G_fo 1 (pM mu2) = G_fo 1 (pM mu)
  rw [h]
theorem G_ul_p {mu mu2 : ab_mem} (h : pM mu2 = pM mu) : G_ul mu2 = G_ul mu := by
  show G_ul (pM mu2) = G_ul (pM mu)
  rw [h]
theorem G_pa_0_p {mu mu2 : ab_mem} (h : pM mu2 = pM mu) : G_pa 0 mu2 = G_pa 0 mu := by
  show G_pa 0 (pM mu2) = G_pa 0 (pM mu)
  rw [h]
theorem G_pa_1_p {mu mu2 : ab_mem} (h : pM mu2 = pM mu) : G_pa 1 mu2 = G_pa 1 mu := by
  show G_pa 1 (pM mu2) = G_pa 1 (pM mu)
  rw [h]
theorem G_tr_p {mu mu2 : ab_mem} (h : pM mu2 = pM mu) : G_tr mu2 = G_tr mu := by
  show G_tr (pM mu2) = G_tr (pM mu)
  rw [h]
theorem cntM_p {mu mu2 : ab_mem} (h : pM mu2 = pM mu) : cntM mu2 = cntM mu := by
  show cntM (pM mu2) = cntM (pM mu)
  rw [h]
abbrev rm_X8_digest : Room := { frames := 7, cells := 0, slots := 0, locals := 162 }
theorem k_X8_digest_83 : KV RX8 wsX8_digest rm_X8_digest 83 RX8 yX8_faultOf wsX8_faultOf rm_X8_faultOf 1 := ⟨_, _, _, _, gX8_digest_X8_faultOf, rfl, rfl, rfl, by decide +kernel, by decide⟩
theorem k_X8_digest_128 : KV RX8 wsX8_digest rm_X8_digest 128 RX8 yX8_levelOf wsX8_levelOf rm_X8_levelOf 2 := ⟨_, _, _, _, gX8_digest_X8_levelOf, rfl, rfl, rfl, by decide +kernel, by decide⟩
theorem k_X8_digest_131 : KV RX8 wsX8_digest rm_X8_digest 131 RX8 yX8_hiccupsOf wsX8_hiccupsOf rm_X8_hiccupsOf 1 := ⟨_, _, _, _, gX8_digest_X8_hiccupsOf, rfl, rfl, rfl, by decide +kernel, by decide⟩
theorem k_X8_digest_135 : KV RX8 wsX8_digest rm_X8_digest 135 RX8 yX8_brokenBy wsX8_brokenBy rm_X8_brokenBy 1 := ⟨_, _, _, _, gX8_digest_X8_brokenBy, rfl, rfl, rfl, by decide +kernel, by decide⟩
theorem k_X8_digest_141 : KV RX8 wsX8_digest rm_X8_digest 141 RX8 yX8_judgedNow wsX8_judgedNow rm_X8_judgedNow 0 := ⟨_, _, _, _, gX8_digest_X8_judgedNow, rfl, rfl, rfl, by decide +kernel, by decide⟩
theorem k_X8_digest_145 : KV RX8 wsX8_digest rm_X8_digest 145 RX8 yX8_armisticeOf wsX8_armisticeOf rm_X8_armisticeOf 1 := ⟨_, _, _, _, gX8_digest_X8_armisticeOf, rfl, rfl, rfl, by decide +kernel, by decide⟩
theorem k_X8_digest_160 : KV RX8 wsX8_digest rm_X8_digest 160 RX8 yX8_oddsOf wsX8_oddsOf rm_X8_oddsOf 3 := ⟨_, _, _, _, gX8_digest_X8_oddsOf, rfl, rfl, rfl, by decide +kernel, by decide⟩
theorem k_X8_digest_169 : KV RX8 wsX8_digest rm_X8_digest 169 RX8 yX8_heardOf wsX8_heardOf rm_X8_heardOf 2 := ⟨_, _, _, _, gX8_digest_X8_heardOf, rfl, rfl, rfl, by decide +kernel, by decide⟩
theorem k_X8_digest_177 : KV RX8 wsX8_digest rm_X8_digest 177 RX8 yX8_quietOf wsX8_quietOf rm_X8_quietOf 4 := ⟨_, _, _, _, gX8_digest_X8_quietOf, rfl, rfl, rfl, by decide +kernel, by decide⟩
theorem k_X8_digest_185 : KV RX8 wsX8_digest rm_X8_digest 185 RX8 yX8_forceOf wsX8_forceOf rm_X8_forceOf 3 := ⟨_, _, _, _, gX8_digest_X8_forceOf, rfl, rfl, rfl, by decide +kernel, by decide⟩
theorem k_X8_digest_192 : KV RX8 wsX8_digest rm_X8_digest 192 RX8 yX8_frightOf wsX8_frightOf rm_X8_frightOf 1 := ⟨_, _, _, _, gX8_digest_X8_frightOf, rfl, rfl, rfl, by decide +kernel, by decide⟩
theorem k_X8_digest_195 : KV RX8 wsX8_digest rm_X8_digest 195 RX8 yX8_unlikeNow wsX8_unlikeNow rm_X8_unlikeNow 0 := ⟨_, _, _, _, gX8_digest_X8_unlikeNow, rfl, rfl, rfl, by decide +kernel, by decide⟩
theorem k_X8_digest_198 : KV RX8 wsX8_digest rm_X8_digest 198 RX8 yX8_parrotOf wsX8_parrotOf rm_X8_parrotOf 1 := ⟨_, _, _, _, gX8_digest_X8_parrotOf, rfl, rfl, rfl, by decide +kernel, by decide⟩
theorem k_X8_digest_204 : KV RX8 wsX8_digest rm_X8_digest 204 RX8 yX8_trainedOf wsX8_trainedOf rm_X8_trainedOf 2 := ⟨_, _, _, _, gX8_digest_X8_trainedOf, rfl, rfl, rfl, by decide +kernel, by decide⟩
theorem k_X8_digest_224 : KV RX8 wsX8_digest rm_X8_digest 224 RX8 yX8_count wsX8_count rm_X8_count 1 := ⟨_, _, _, _, gX8_digest_X8_count, rfl, rfl, rfl, by decide +kernel, by decide⟩

set_option maxHeartbeats 1000000 in
set_option maxRecDepth 100000 in
theorem c_X8_digest {l : Launch} {V : ab_V} {mu : ab_mem}  (hV : ab_OK V ShM) (hi : IM mu) (hpo : PO (mu 5)) : CT l V ShM yX8_digest wsX8_digest rm_X8_digest [.ref (aL V 0)] mu (pL (fun r mu2 => r = dgAll (cntM mu) (G_flt mu) (G_hic mu) (G_lv 0 mu) (G_lv 9 mu) (G_lv 23 mu) (G_hrd mu) (G_frt mu) (G_bk mu) (G_jd mu) (G_ar 0 mu) (G_ar 1 mu) (G_od 0 mu) (G_od 1 mu) (G_q (-1) mu) (G_q 0 mu) (G_fo 0 mu) (G_fo 1 mu) (G_ul mu) (G_pa 0 mu) (G_pa 1 mu) (G_tr mu) ∧ pM mu2 = pM mu)) := by
  refine ab_enter hV (by decide) rfl (Nat.le_of_ble_eq_true rfl) ?_
  intro X B E
  have B : CX X l rm_X8_digest RX8 cX8_digest wsX8_digest 4 V ShM := B
  show AW X V ShM 4 0 [some (.ref (aL V 0)), none, none, none] [] mu
  have l353 : ∀ (m j : Nat), j + m = 3 → ∀ mu1, pM mu1 = pM mu → AW X V ShM 4 353 [some (.ref (aL V 0)), some (.long (dgC (dg1 (dg1 (dg1 (dg1 (dg1 (dgE (dgL (dgL (dg1 (dg1 (dg1 (dgC (dgB (dgA (cntM mu)) (G_flt mu) (G_hic mu) (G_lv 0 mu) (G_lv 9 mu) (G_lv 23 mu) (G_hrd mu) (G_frt mu) 3) (G_bk mu) 3) (G_jd mu)) (G_ar 0 mu)) (G_ar 1 mu)) (G_od 0 mu)) (G_od 1 mu)) (G_q (-1) mu) (G_q 0 mu) 2) (G_fo 0 mu)) (G_fo 1 mu)) (G_ul mu)) (G_pa 0 mu)) (G_pa 1 mu)) (G_tr mu) j)), none, some (.int (nI j))] [] mu1 := by
    intro m
    induction m with
    | zero =>
      intro j hj mu1 hp
      have e : j = 3 := by omega
      subst e
      refine a_iload_n B dX8_digest_353 rfl ?_
      refine a_iconst (v := 3) B dX8_digest_354 (by decide) ?_
      refine a_icmp_ge_t (tgt := 378) B dX8_digest_355 (by decide) (by decide) ?_
      refine a_lload_n B dX8_digest_378 rfl ?_
      refine a_lreturn B E dX8_digest_379 ?_
      exact ⟨rfl, hp⟩
    | succ m ih =>
      intro j hj mu1 hp
      refine a_iload_n B dX8_digest_353 rfl ?_
      refine a_iconst (v := 3) B dX8_digest_354 (by decide) ?_
      refine a_icmp_ge_f (tgt := 378) B dX8_digest_355 (by decide) (nI_ge (a := j) (b := 3) (by omega) (by decide)) ?_
      refine a_ldc2 (v := 31) B (by decide +kernel) dX8_digest_358 ?_
      refine a_lload_n B dX8_digest_361 rfl ?_
      refine a_lmul B dX8_digest_362 ?_
      refine a_aload_n B dX8_digest_363 rfl ?_
      refine a_iconst (v := 0) B dX8_digest_364 (by decide) ?_
      refine a_iload_n B dX8_digest_365 rfl ?_
      refine a_callVi B k_X8_digest_204 (c_X8_trainedOf (g := 0) (w := nI j) hV (IM_p hp hi) (by decide)) (by first | rfl | assumption) rfl rfl rfl (Nat.le_of_ble_eq_true rfl) dX8_digest_366 (fun r366 mu366 h366 => ?_)
      obtain ⟨er, hq⟩ := h366
      replace er := er.trans (congrFun (G_tr_p hp) j)
      subst er
      replace hp := hq.trans hp
      refine a_i2l B dX8_digest_369 ?_
      refine a_ladd B dX8_digest_370 ?_
      rw [← dg1_eq]
      refine a_lstore_n B dX8_digest_371 (by decide) ?_
      refine a_iinc (v := 1) B dX8_digest_372 rfl (by decide) (by decide) ?_
      refine a_goto (tgt := 353) B dX8_digest_375 (by decide) ?_
      rw [nI_1]
      have z := ih (j + 1) (by omega) _ hp
      rw [dgC_s] at z
      exact z
  have k281 : ∀ mu1, pM mu1 = pM mu → ∀ x3, AW X V ShM 4 281 [some (.ref (aL V 0)), some (.long (dgE (dgL (dgL (dg1 (dg1 (dg1 (dgC (dgB (dgA (cntM mu)) (G_flt mu) (G_hic mu) (G_lv 0 mu) (G_lv 9 mu) (G_lv 23 mu) (G_hrd mu) (G_frt mu) 3) (G_bk mu) 3) (G_jd mu)) (G_ar 0 mu)) (G_ar 1 mu)) (G_od 0 mu)) (G_od 1 mu)) (G_q (-1) mu) (G_q 0 mu) 2)), none, some (.int x3)] [] mu1 := by
    intro mu1 hp x3
    refine a_ldc2 (v := 31) B (by decide +kernel) dX8_digest_281 ?_
    refine a_lload_n B dX8_digest_284 rfl ?_
    refine a_lmul B dX8_digest_285 ?_
    refine a_aload_n B dX8_digest_286 rfl ?_
    refine a_iconst (v := 3) B dX8_digest_287 (by decide) ?_
    refine a_bipush (v := 6) B dX8_digest_288 (by decide) ?_
    refine a_iconst (v := 0) B dX8_digest_290 (by decide) ?_
    refine a_callVi B k_X8_digest_185 (c_X8_forceOf (h := 3) (n := 6) hV (IM_p hp hi) (by decide) (by decide) (by decide)) (by first | rfl | assumption) rfl rfl rfl (Nat.le_of_ble_eq_true rfl) dX8_digest_291 (fun r291 mu291 h291 => ?_)
    obtain ⟨er, hq⟩ := h291
    replace er := er.trans (G_fo_0_p hp)
    subst er
    replace hp := hq.trans hp
    refine a_i2l B dX8_digest_294 ?_
    refine a_ladd B dX8_digest_295 ?_
    rw [← dg1_eq]
    refine a_lstore_n B dX8_digest_296 (by decide) ?_
    show AW _ _ _ _ _ [some (.ref _), some (.long _), none, some (.int _)] _ _
    refine a_ldc2 (v := 31) B (by decide +kernel) dX8_digest_297 ?_
    refine a_lload_n B dX8_digest_300 rfl ?_
    refine a_lmul B dX8_digest_301 ?_
    refine a_aload_n B dX8_digest_302 rfl ?_
    refine a_iconst (v := 3) B dX8_digest_303 (by decide) ?_
    refine a_bipush (v := 6) B dX8_digest_304 (by decide) ?_
    refine a_iconst (v := 1) B dX8_digest_306 (by decide) ?_
    refine a_callVi B k_X8_digest_185 (c_X8_forceOf (h := 3) (n := 6) hV (IM_p hp hi) (by decide) (by decide) (by decide)) (by first | rfl | assumption) rfl rfl rfl (Nat.le_of_ble_eq_true rfl) dX8_digest_307 (fun r307 mu307 h307 => ?_)
    obtain ⟨er, hq⟩ := h307
    replace er := er.trans (G_fo_1_p hp)
    subst er
    replace hp := hq.trans hp
    refine a_i2l B dX8_digest_310 ?_
    refine a_ladd B dX8_digest_311 ?_
    rw [← dg1_eq]
    refine a_lstore_n B dX8_digest_312 (by decide) ?_
    show AW _ _ _ _ _ [some (.ref _), some (.long _), none, some (.int _)] _ _
    refine a_ldc2 (v := 31) B (by decide +kernel) dX8_digest_313 ?_
    refine a_lload_n B dX8_digest_316 rfl ?_
    refine a_lmul B dX8_digest_317 ?_
    refine a_aload_n B dX8_digest_318 rfl ?_
    refine a_callVi B k_X8_digest_195 (c_X8_unlikeNow hV (IM_p hp hi)) (by first | rfl | assumption) rfl rfl rfl (Nat.le_of_ble_eq_true rfl) dX8_digest_319 (fun r319 mu319 h319 => ?_)
    obtain ⟨er, hq⟩ := h319
    replace er := er.trans (G_ul_p hp)
    subst er
    replace hp := hq.trans hp
    refine a_i2l B dX8_digest_322 ?_
    refine a_ladd B dX8_digest_323 ?_
    rw [← dg1_eq]
    refine a_lstore_n B dX8_digest_324 (by decide) ?_
    show AW _ _ _ _ _ [some (.ref _), some (.long _), none, some (.int _)] _ _
    refine a_ldc2 (v := 31) B (by decide +kernel) dX8_digest_325 ?_
    refine a_lload_n B dX8_digest_328 rfl ?_
    refine a_lmul B dX8_digest_329 ?_
    refine a_aload_n B dX8_digest_330 rfl ?_
    refine a_iconst (v := 0) B dX8_digest_331 (by decide) ?_
    refine a_callVi B k_X8_digest_198 (c_X8_parrotOf (g := 0) hV (IM_p hp hi) (by decide)) (by first | rfl | assumption) rfl rfl rfl (Nat.le_of_ble_eq_true rfl) dX8_digest_332 (fun r332 mu332 h332 => ?_)
    obtain ⟨er, hq⟩ := h332
    replace er := er.trans (G_pa_0_p hp)
    subst er
    replace hp := hq.trans hp
    refine a_i2l B dX8_digest_335 ?_
    refine a_ladd B dX8_digest_336 ?_
    rw [← dg1_eq]
    refine a_lstore_n B dX8_digest_337 (by decide) ?_
    show AW _ _ _ _ _ [some (.ref _), some (.long _), none, some (.int _)] _ _
    refine a_ldc2 (v := 31) B (by decide +kernel) dX8_digest_338 ?_
    refine a_lload_n B dX8_digest_341 rfl ?_
    refine a_lmul B dX8_digest_342 ?_
    refine a_aload_n B dX8_digest_343 rfl ?_
    refine a_iconst (v := 1) B dX8_digest_344 (by decide) ?_
    refine a_callVi B k_X8_digest_198 (c_X8_parrotOf (g := 1) hV (IM_p hp hi) (by decide)) (by first | rfl | assumption) rfl rfl rfl (Nat.le_of_ble_eq_true rfl) dX8_digest_345 (fun r345 mu345 h345 => ?_)
    obtain ⟨er, hq⟩ := h345
    replace er := er.trans (G_pa_1_p hp)
    subst er
    replace hp := hq.trans hp
    refine a_i2l B dX8_digest_348 ?_
    refine a_ladd B dX8_digest_349 ?_
    rw [← dg1_eq]
    refine a_lstore_n B dX8_digest_350 (by decide) ?_
    show AW _ _ _ _ _ [some (.ref _), some (.long _), none, some (.int _)] _ _
    refine a_iconst (v := 0) B dX8_digest_351 (by decide) ?_
    refine a_istore_n B dX8_digest_352 (by decide) ?_
    have z := l353 3 0 rfl _ hp
    rw [dgC_0] at z
    exact z
  have l236 : ∀ (m j : Nat), j + m = 2 → ∀ mu1, pM mu1 = pM mu → AW X V ShM 4 236 [some (.ref (aL V 0)), some (.long (dgE (dgL (dgL (dg1 (dg1 (dg1 (dgC (dgB (dgA (cntM mu)) (G_flt mu) (G_hic mu) (G_lv 0 mu) (G_lv 9 mu) (G_lv 23 mu) (G_hrd mu) (G_frt mu) 3) (G_bk mu) 3) (G_jd mu)) (G_ar 0 mu)) (G_ar 1 mu)) (G_od 0 mu)) (G_od 1 mu)) (G_q (-1) mu) (G_q 0 mu) j)), none, some (.int (nI j))] [] mu1 := by
    intro m
    induction m with
    | zero =>
      intro j hj mu1 hp
      have e : j = 2 := by omega
      subst e
      refine a_iload_n B dX8_digest_236 rfl ?_
      refine a_iconst (v := 2) B dX8_digest_237 (by decide) ?_
      refine a_icmp_ge_t (tgt := 281) B dX8_digest_238 (by decide) (by decide) ?_
      exact k281 _ hp _
    | succ m ih =>
      intro j hj mu1 hp
      refine a_iload_n B dX8_digest_236 rfl ?_
      refine a_iconst (v := 2) B dX8_digest_237 (by decide) ?_
      refine a_icmp_ge_f (tgt := 281) B dX8_digest_238 (by decide) (nI_ge (a := j) (b := 2) (by omega) (by decide)) ?_
      refine a_ldc2 (v := 31) B (by decide +kernel) dX8_digest_241 ?_
      refine a_lload_n B dX8_digest_244 rfl ?_
      refine a_lmul B dX8_digest_245 ?_
      refine a_aload_n B dX8_digest_246 rfl ?_
      refine a_iload_n B dX8_digest_247 rfl ?_
      refine a_iconst (v := 2) B dX8_digest_248 (by decide) ?_
      refine a_bipush (v := 9) B dX8_digest_249 (by decide) ?_
      refine a_iconst (v := -1) B dX8_digest_251 (by decide) ?_
      refine a_callVi B k_X8_digest_177 (c_X8_quietOf (fr := 2) (to := 9) (i := -1) hV (IM_p hp hi) (by rw [pM_at hp 5 rfl]; exact hpo) (by omega) (by decide) (by decide) (Or.inl rfl)) (by first | rfl | assumption) rfl rfl rfl (Nat.le_of_ble_eq_true rfl) dX8_digest_252 (fun r252 mu252 h252 => ?_)
      obtain ⟨er, hq⟩ := h252
      replace er := er.trans (congrFun (G_q_m_p hp) j)
      subst er
      replace hp := hq.trans hp
      refine a_i2l B dX8_digest_255 ?_
      refine a_ladd B dX8_digest_256 ?_
      rw [← dg1_eq]
      refine a_lstore_n B dX8_digest_257 (by decide) ?_
      show AW _ _ _ _ _ [some (.ref _), some (.long _), none, some (.int _)] _ _
      refine a_ldc2 (v := 31) B (by decide +kernel) dX8_digest_258 ?_
      refine a_lload_n B dX8_digest_261 rfl ?_
      refine a_lmul B dX8_digest_262 ?_
      refine a_aload_n B dX8_digest_263 rfl ?_
      refine a_iload_n B dX8_digest_264 rfl ?_
      refine a_iconst (v := 2) B dX8_digest_265 (by decide) ?_
      refine a_bipush (v := 9) B dX8_digest_266 (by decide) ?_
      refine a_iconst (v := 0) B dX8_digest_268 (by decide) ?_
      refine a_callVi B k_X8_digest_177 (c_X8_quietOf (fr := 2) (to := 9) (i := 0) hV (IM_p hp hi) (by rw [pM_at hp 5 rfl]; exact hpo) (by omega) (by decide) (by decide) (Or.inr ⟨0, by decide, rfl⟩)) (by first | rfl | assumption) rfl rfl rfl (Nat.le_of_ble_eq_true rfl) dX8_digest_269 (fun r269 mu269 h269 => ?_)
      obtain ⟨er, hq⟩ := h269
      replace er := er.trans (congrFun (G_q_0_p hp) j)
      subst er
      replace hp := hq.trans hp
      refine a_i2l B dX8_digest_272 ?_
      refine a_ladd B dX8_digest_273 ?_
      rw [← dg1_eq]
      refine a_lstore_n B dX8_digest_274 (by decide) ?_
      show AW _ _ _ _ _ [some (.ref _), some (.long _), none, some (.int _)] _ _
      refine a_iinc (v := 1) B dX8_digest_275 rfl (by decide) (by decide) ?_
      refine a_goto (tgt := 236) B dX8_digest_278 (by decide) ?_
      rw [nI_1]
      have z := ih (j + 1) (by omega) _ hp
      rw [dgE_s] at z
      exact z
  have k168 : ∀ mu1, pM mu1 = pM mu → ∀ x3, AW X V ShM 4 168 [some (.ref (aL V 0)), some (.long (dgC (dgB (dgA (cntM mu)) (G_flt mu) (G_hic mu) (G_lv 0 mu) (G_lv 9 mu) (G_lv 23 mu) (G_hrd mu) (G_frt mu) 3) (G_bk mu) 3)), none, some (.int x3)] [] mu1 := by
    intro mu1 hp x3
    refine a_ldc2 (v := 31) B (by decide +kernel) dX8_digest_168 ?_
    refine a_lload_n B dX8_digest_171 rfl ?_
    refine a_lmul B dX8_digest_172 ?_
    refine a_aload_n B dX8_digest_173 rfl ?_
    refine a_callVi B k_X8_digest_141 (c_X8_judgedNow hV (IM_p hp hi)) (by first | rfl | assumption) rfl rfl rfl (Nat.le_of_ble_eq_true rfl) dX8_digest_174 (fun r174 mu174 h174 => ?_)
    obtain ⟨er, hq⟩ := h174
    replace er := er.trans (G_jd_p hp)
    subst er
    replace hp := hq.trans hp
    refine a_i2l B dX8_digest_177 ?_
    refine a_ladd B dX8_digest_178 ?_
    rw [← dg1_eq]
    refine a_lstore_n B dX8_digest_179 (by decide) ?_
    show AW _ _ _ _ _ [some (.ref _), some (.long _), none, some (.int _)] _ _
    refine a_ldc2 (v := 31) B (by decide +kernel) dX8_digest_180 ?_
    refine a_lload_n B dX8_digest_183 rfl ?_
    refine a_lmul B dX8_digest_184 ?_
    refine a_aload_n B dX8_digest_185 rfl ?_
    refine a_iconst (v := 0) B dX8_digest_186 (by decide) ?_
    refine a_callVi B k_X8_digest_145 (c_X8_armisticeOf hV (IM_p hp hi)) (by first | rfl | assumption) rfl rfl rfl (Nat.le_of_ble_eq_true rfl) dX8_digest_187 (fun r187 mu187 h187 => ?_)
    obtain ⟨er, hq⟩ := h187
    replace er := er.trans (G_ar_0_p hp)
    subst er
    replace hp := hq.trans hp
    refine a_i2l B dX8_digest_190 ?_
    refine a_ladd B dX8_digest_191 ?_
    rw [← dg1_eq]
    refine a_lstore_n B dX8_digest_192 (by decide) ?_
    show AW _ _ _ _ _ [some (.ref _), some (.long _), none, some (.int _)] _ _
    refine a_ldc2 (v := 31) B (by decide +kernel) dX8_digest_193 ?_
    refine a_lload_n B dX8_digest_196 rfl ?_
    refine a_lmul B dX8_digest_197 ?_
    refine a_aload_n B dX8_digest_198 rfl ?_
    refine a_iconst (v := 1) B dX8_digest_199 (by decide) ?_
    refine a_callVi B k_X8_digest_145 (c_X8_armisticeOf hV (IM_p hp hi)) (by first | rfl | assumption) rfl rfl rfl (Nat.le_of_ble_eq_true rfl) dX8_digest_200 (fun r200 mu200 h200 => ?_)
    obtain ⟨er, hq⟩ := h200
    replace er := er.trans (G_ar_1_p hp)
    subst er
    replace hp := hq.trans hp
    refine a_i2l B dX8_digest_203 ?_
    refine a_ladd B dX8_digest_204 ?_
    rw [← dg1_eq]
    refine a_lstore_n B dX8_digest_205 (by decide) ?_
    show AW _ _ _ _ _ [some (.ref _), some (.long _), none, some (.int _)] _ _
    refine a_ldc2 (v := 31) B (by decide +kernel) dX8_digest_206 ?_
    refine a_lload_n B dX8_digest_209 rfl ?_
    refine a_lmul B dX8_digest_210 ?_
    refine a_aload_n B dX8_digest_211 rfl ?_
    refine a_iconst (v := 4) B dX8_digest_212 (by decide) ?_
    refine a_iconst (v := 5) B dX8_digest_213 (by decide) ?_
    refine a_iconst (v := 0) B dX8_digest_214 (by decide) ?_
    refine a_callVl B k_X8_digest_160 (c_X8_oddsOf (h := 4) (n := 5) hV (IM_p hp hi) (by decide) (by decide)) (by first | rfl | assumption) rfl rfl rfl (Nat.le_of_ble_eq_true rfl) dX8_digest_215 (fun r215 mu215 h215 => ?_)
    obtain ⟨er, hq⟩ := h215
    replace er := er.trans (G_od_0_p hp)
    subst er
    replace hp := hq.trans hp
    refine a_ladd B dX8_digest_218 ?_
    rw [← dgL_eq]
    refine a_lstore_n B dX8_digest_219 (by decide) ?_
    show AW _ _ _ _ _ [some (.ref _), some (.long _), none, some (.int _)] _ _
    refine a_ldc2 (v := 31) B (by decide +kernel) dX8_digest_220 ?_
    refine a_lload_n B dX8_digest_223 rfl ?_
    refine a_lmul B dX8_digest_224 ?_
    refine a_aload_n B dX8_digest_225 rfl ?_
    refine a_iconst (v := 4) B dX8_digest_226 (by decide) ?_
    refine a_iconst (v := 5) B dX8_digest_227 (by decide) ?_
    refine a_iconst (v := 1) B dX8_digest_228 (by decide) ?_
    refine a_callVl B k_X8_digest_160 (c_X8_oddsOf (h := 4) (n := 5) hV (IM_p hp hi) (by decide) (by decide)) (by first | rfl | assumption) rfl rfl rfl (Nat.le_of_ble_eq_true rfl) dX8_digest_229 (fun r229 mu229 h229 => ?_)
    obtain ⟨er, hq⟩ := h229
    replace er := er.trans (G_od_1_p hp)
    subst er
    replace hp := hq.trans hp
    refine a_ladd B dX8_digest_232 ?_
    rw [← dgL_eq]
    refine a_lstore_n B dX8_digest_233 (by decide) ?_
    show AW _ _ _ _ _ [some (.ref _), some (.long _), none, some (.int _)] _ _
    refine a_iconst (v := 0) B dX8_digest_234 (by decide) ?_
    refine a_istore_n B dX8_digest_235 (by decide) ?_
    have z := l236 2 0 rfl _ hp
    rw [dgE_0] at z
    exact z
  have l144 : ∀ (m j : Nat), j + m = 3 → ∀ mu1, pM mu1 = pM mu → AW X V ShM 4 144 [some (.ref (aL V 0)), some (.long (dgC (dgB (dgA (cntM mu)) (G_flt mu) (G_hic mu) (G_lv 0 mu) (G_lv 9 mu) (G_lv 23 mu) (G_hrd mu) (G_frt mu) 3) (G_bk mu) j)), none, some (.int (nI j))] [] mu1 := by
    intro m
    induction m with
    | zero =>
      intro j hj mu1 hp
      have e : j = 3 := by omega
      subst e
      refine a_iload_n B dX8_digest_144 rfl ?_
      refine a_iconst (v := 3) B dX8_digest_145 (by decide) ?_
      refine a_icmp_ge_t (tgt := 168) B dX8_digest_146 (by decide) (by decide) ?_
      exact k168 _ hp _
    | succ m ih =>
      intro j hj mu1 hp
      refine a_iload_n B dX8_digest_144 rfl ?_
      refine a_iconst (v := 3) B dX8_digest_145 (by decide) ?_
      refine a_icmp_ge_f (tgt := 168) B dX8_digest_146 (by decide) (nI_ge (a := j) (b := 3) (by omega) (by decide)) ?_
      refine a_ldc2 (v := 31) B (by decide +kernel) dX8_digest_149 ?_
      refine a_lload_n B dX8_digest_152 rfl ?_
      refine a_lmul B dX8_digest_153 ?_
      refine a_aload_n B dX8_digest_154 rfl ?_
      refine a_iload_n B dX8_digest_155 rfl ?_
      refine a_callVi B k_X8_digest_135 (c_X8_brokenBy hV (IM_p hp hi)) (by first | rfl | assumption) rfl rfl rfl (Nat.le_of_ble_eq_true rfl) dX8_digest_156 (fun r156 mu156 h156 => ?_)
      obtain ⟨er, hq⟩ := h156
      replace er := er.trans (congrFun (G_bk_p hp) j)
      subst er
      replace hp := hq.trans hp
      refine a_i2l B dX8_digest_159 ?_
      refine a_ladd B dX8_digest_160 ?_
      rw [← dg1_eq]
      refine a_lstore_n B dX8_digest_161 (by decide) ?_
      refine a_iinc (v := 1) B dX8_digest_162 rfl (by decide) (by decide) ?_
      refine a_goto (tgt := 144) B dX8_digest_165 (by decide) ?_
      rw [nI_1]
      have z := ih (j + 1) (by omega) _ hp
      rw [dgC_s] at z
      exact z
  have k142 : ∀ mu1, pM mu1 = pM mu → ∀ x3, AW X V ShM 4 142 [some (.ref (aL V 0)), some (.long (dgB (dgA (cntM mu)) (G_flt mu) (G_hic mu) (G_lv 0 mu) (G_lv 9 mu) (G_lv 23 mu) (G_hrd mu) (G_frt mu) 3)), none, some (.int x3)] [] mu1 := by
    intro mu1 hp x3
    refine a_iconst (v := 0) B dX8_digest_142 (by decide) ?_
    refine a_istore_n B dX8_digest_143 (by decide) ?_
    have z := l144 3 0 rfl _ hp
    rw [dgC_0] at z
    exact z
  have l33 : ∀ (m j : Nat), j + m = 3 → ∀ mu1, pM mu1 = pM mu → AW X V ShM 4 33 [some (.ref (aL V 0)), some (.long (dgB (dgA (cntM mu)) (G_flt mu) (G_hic mu) (G_lv 0 mu) (G_lv 9 mu) (G_lv 23 mu) (G_hrd mu) (G_frt mu) j)), none, some (.int (nI j))] [] mu1 := by
    intro m
    induction m with
    | zero =>
      intro j hj mu1 hp
      have e : j = 3 := by omega
      subst e
      refine a_iload_n B dX8_digest_33 rfl ?_
      refine a_iconst (v := 3) B dX8_digest_34 (by decide) ?_
      refine a_icmp_ge_t (tgt := 142) B dX8_digest_35 (by decide) (by decide) ?_
      exact k142 _ hp _
    | succ m ih =>
      intro j hj mu1 hp
      refine a_iload_n B dX8_digest_33 rfl ?_
      refine a_iconst (v := 3) B dX8_digest_34 (by decide) ?_
      refine a_icmp_ge_f (tgt := 142) B dX8_digest_35 (by decide) (nI_ge (a := j) (b := 3) (by omega) (by decide)) ?_
      refine a_ldc2 (v := 31) B (by decide +kernel) dX8_digest_38 ?_
      refine a_lload_n B dX8_digest_41 rfl ?_
      refine a_lmul B dX8_digest_42 ?_
      refine a_aload_n B dX8_digest_43 rfl ?_
      refine a_iload_n B dX8_digest_44 rfl ?_
      refine a_callVi B k_X8_digest_83 (c_X8_faultOf (n := nM mu1 j) hV (by omega) ((IM_p hp hi).1 j (by omega)).2 ((IM_p hp hi).1 j (by omega)).1) (by first | rfl | assumption) rfl rfl rfl (Nat.le_of_ble_eq_true rfl) dX8_digest_45 (fun r45 mu45 h45 => ?_)
      obtain ⟨er, hq⟩ := h45
      subst hq
      replace er := er.trans (congrFun (G_flt_p hp) j)
      subst er
      refine a_i2l B dX8_digest_48 ?_
      refine a_ladd B dX8_digest_49 ?_
      rw [← dg1_eq]
      refine a_lstore_n B dX8_digest_50 (by decide) ?_
      show AW _ _ _ _ _ [some (.ref _), some (.long _), none, some (.int _)] _ _
      refine a_ldc2 (v := 31) B (by decide +kernel) dX8_digest_51 ?_
      refine a_lload_n B dX8_digest_54 rfl ?_
      refine a_lmul B dX8_digest_55 ?_
      refine a_aload_n B dX8_digest_56 rfl ?_
      refine a_iload_n B dX8_digest_57 rfl ?_
      refine a_callVi B k_X8_digest_131 (c_X8_hiccupsOf hV (IM_p hp hi) (by omega)) (by first | rfl | assumption) rfl rfl rfl (Nat.le_of_ble_eq_true rfl) dX8_digest_58 (fun r58 mu58 h58 => ?_)
      obtain ⟨er, hq⟩ := h58
      replace er := er.trans (congrFun (G_hic_p hp) j)
      subst er
      replace hp := hq.trans hp
      refine a_i2l B dX8_digest_61 ?_
      refine a_ladd B dX8_digest_62 ?_
      rw [← dg1_eq]
      refine a_lstore_n B dX8_digest_63 (by decide) ?_
      show AW _ _ _ _ _ [some (.ref _), some (.long _), none, some (.int _)] _ _
      refine a_ldc2 (v := 31) B (by decide +kernel) dX8_digest_64 ?_
      refine a_lload_n B dX8_digest_67 rfl ?_
      refine a_lmul B dX8_digest_68 ?_
      refine a_aload_n B dX8_digest_69 rfl ?_
      refine a_iload_n B dX8_digest_70 rfl ?_
      refine a_iconst (v := 0) B dX8_digest_71 (by decide) ?_
      refine a_callVi B k_X8_digest_128 (c_X8_levelOf (h := 0) hV (IM_p hp hi) (by omega) (by decide)) (by first | rfl | assumption) rfl rfl rfl (Nat.le_of_ble_eq_true rfl) dX8_digest_72 (fun r72 mu72 h72 => ?_)
      obtain ⟨er, hq⟩ := h72
      replace er := er.trans (congrFun (G_lv_0_p hp) j)
      subst er
      replace hp := hq.trans hp
      refine a_i2l B dX8_digest_75 ?_
      refine a_ladd B dX8_digest_76 ?_
      rw [← dg1_eq]
      refine a_lstore_n B dX8_digest_77 (by decide) ?_
      show AW _ _ _ _ _ [some (.ref _), some (.long _), none, some (.int _)] _ _
      refine a_ldc2 (v := 31) B (by decide +kernel) dX8_digest_78 ?_
      refine a_lload_n B dX8_digest_81 rfl ?_
      refine a_lmul B dX8_digest_82 ?_
      refine a_aload_n B dX8_digest_83 rfl ?_
      refine a_iload_n B dX8_digest_84 rfl ?_
      refine a_bipush (v := 9) B dX8_digest_85 (by decide) ?_
      refine a_callVi B k_X8_digest_128 (c_X8_levelOf (h := 9) hV (IM_p hp hi) (by omega) (by decide)) (by first | rfl | assumption) rfl rfl rfl (Nat.le_of_ble_eq_true rfl) dX8_digest_87 (fun r87 mu87 h87 => ?_)
      obtain ⟨er, hq⟩ := h87
      replace er := er.trans (congrFun (G_lv_9_p hp) j)
      subst er
      replace hp := hq.trans hp
      refine a_i2l B dX8_digest_90 ?_
      refine a_ladd B dX8_digest_91 ?_
      rw [← dg1_eq]
      refine a_lstore_n B dX8_digest_92 (by decide) ?_
      show AW _ _ _ _ _ [some (.ref _), some (.long _), none, some (.int _)] _ _
      refine a_ldc2 (v := 31) B (by decide +kernel) dX8_digest_93 ?_
      refine a_lload_n B dX8_digest_96 rfl ?_
      refine a_lmul B dX8_digest_97 ?_
      refine a_aload_n B dX8_digest_98 rfl ?_
      refine a_iload_n B dX8_digest_99 rfl ?_
      refine a_bipush (v := 23) B dX8_digest_100 (by decide) ?_
      refine a_callVi B k_X8_digest_128 (c_X8_levelOf (h := 23) hV (IM_p hp hi) (by omega) (by decide)) (by first | rfl | assumption) rfl rfl rfl (Nat.le_of_ble_eq_true rfl) dX8_digest_102 (fun r102 mu102 h102 => ?_)
      obtain ⟨er, hq⟩ := h102
      replace er := er.trans (congrFun (G_lv_23_p hp) j)
      subst er
      replace hp := hq.trans hp
      refine a_i2l B dX8_digest_105 ?_
      refine a_ladd B dX8_digest_106 ?_
      rw [← dg1_eq]
      refine a_lstore_n B dX8_digest_107 (by decide) ?_
      show AW _ _ _ _ _ [some (.ref _), some (.long _), none, some (.int _)] _ _
      refine a_ldc2 (v := 31) B (by decide +kernel) dX8_digest_108 ?_
      refine a_lload_n B dX8_digest_111 rfl ?_
      refine a_lmul B dX8_digest_112 ?_
      refine a_aload_n B dX8_digest_113 rfl ?_
      refine a_iload_n B dX8_digest_114 rfl ?_
      refine a_bipush (v := 7) B dX8_digest_115 (by decide) ?_
      refine a_callVi B k_X8_digest_169 (c_X8_heardOf hV (IM_p hp hi) (by omega)) (by first | rfl | assumption) rfl rfl rfl (Nat.le_of_ble_eq_true rfl) dX8_digest_117 (fun r117 mu117 h117 => ?_)
      obtain ⟨er, hq⟩ := h117
      replace er := er.trans (congrFun (G_hrd_p hp) j)
      subst er
      replace hp := hq.trans hp
      refine a_i2l B dX8_digest_120 ?_
      refine a_ladd B dX8_digest_121 ?_
      rw [← dg1_eq]
      refine a_lstore_n B dX8_digest_122 (by decide) ?_
      show AW _ _ _ _ _ [some (.ref _), some (.long _), none, some (.int _)] _ _
      refine a_ldc2 (v := 31) B (by decide +kernel) dX8_digest_123 ?_
      refine a_lload_n B dX8_digest_126 rfl ?_
      refine a_lmul B dX8_digest_127 ?_
      refine a_aload_n B dX8_digest_128 rfl ?_
      refine a_iload_n B dX8_digest_129 rfl ?_
      refine a_callVi B k_X8_digest_192 (c_X8_frightOf hV (IM_p hp hi) (by omega)) (by first | rfl | assumption) rfl rfl rfl (Nat.le_of_ble_eq_true rfl) dX8_digest_130 (fun r130 mu130 h130 => ?_)
      obtain ⟨er, hq⟩ := h130
      replace er := er.trans (congrFun (G_frt_p hp) j)
      subst er
      replace hp := hq.trans hp
      refine a_i2l B dX8_digest_133 ?_
      refine a_ladd B dX8_digest_134 ?_
      rw [← dg1_eq]
      refine a_lstore_n B dX8_digest_135 (by decide) ?_
      show AW _ _ _ _ _ [some (.ref _), some (.long _), none, some (.int _)] _ _
      refine a_iinc (v := 1) B dX8_digest_136 rfl (by decide) (by decide) ?_
      refine a_goto (tgt := 33) B dX8_digest_139 (by decide) ?_
      rw [nI_1]
      have z := ih (j + 1) (by omega) _ hp
      rw [dgB_s] at z
      exact z
  have k31 : ∀ mu1, pM mu1 = pM mu → ∀ x3, AW X V ShM 4 31 [some (.ref (aL V 0)), some (.long (dgA (cntM mu))), none, some (.int x3)] [] mu1 := by
    intro mu1 hp x3
    refine a_iconst (v := 0) B dX8_digest_31 (by decide) ?_
    refine a_istore_n B dX8_digest_32 (by decide) ?_
    have z := l33 3 0 rfl _ hp
    rw [dgB_0] at z
    exact z
  have l6 : ∀ (m j : Nat), j + m = 8 → ∀ mu1, pM mu1 = pM mu → AW X V ShM 4 6 [some (.ref (aL V 0)), some (.long (dgC 17 (cntM mu) j)), none, some (.int (nI j))] [] mu1 := by
    intro m
    induction m with
    | zero =>
      intro j hj mu1 hp
      have e : j = 8 := by omega
      subst e
      refine a_iload_n B dX8_digest_6 rfl ?_
      refine a_bipush (v := 8) B dX8_digest_7 (by decide) ?_
      refine a_icmp_ge_t (tgt := 31) B dX8_digest_9 (by decide) (by decide) ?_
      rw [← dgA_e]
      exact k31 _ hp _
    | succ m ih =>
      intro j hj mu1 hp
      refine a_iload_n B dX8_digest_6 rfl ?_
      refine a_bipush (v := 8) B dX8_digest_7 (by decide) ?_
      refine a_icmp_ge_f (tgt := 31) B dX8_digest_9 (by decide) (nI_ge (a := j) (b := 8) (by omega) (by decide)) ?_
      refine a_ldc2 (v := 31) B (by decide +kernel) dX8_digest_12 ?_
      refine a_lload_n B dX8_digest_15 rfl ?_
      refine a_lmul B dX8_digest_16 ?_
      refine a_aload_n B dX8_digest_17 rfl ?_
      refine a_iload_n B dX8_digest_18 rfl ?_
      refine a_callVi B k_X8_digest_224 (c_X8_countN hV (IM_p hp hi) (by omega)) (by first | rfl | assumption) rfl rfl rfl (Nat.le_of_ble_eq_true rfl) dX8_digest_19 (fun r19 mu19 h19 => ?_)
      obtain ⟨er, hq⟩ := h19
      subst hq
      replace er := er.trans (congrFun (cntM_p hp) j)
      subst er
      refine a_i2l B dX8_digest_22 ?_
      refine a_ladd B dX8_digest_23 ?_
      rw [← dg1_eq]
      refine a_lstore_n B dX8_digest_24 (by decide) ?_
      refine a_iinc (v := 1) B dX8_digest_25 rfl (by decide) (by decide) ?_
      refine a_goto (tgt := 6) B dX8_digest_28 (by decide) ?_
      rw [nI_1]
      have z := ih (j + 1) (by omega) _ hp
      rw [dgC_s] at z
      exact z
  refine a_ldc2 (v := 17) B (by decide +kernel) dX8_digest_0 ?_
  refine a_lstore_n B dX8_digest_3 (by decide) ?_
  refine a_iconst (v := 0) B dX8_digest_4 (by decide) ?_
  refine a_istore_n B dX8_digest_5 (by decide) ?_
  have z := l6 8 0 rfl mu rfl
  rw [dgC_0] at z
  exact z
