theorem fl_X8_13 : gFL RX8 13 8 1 := ⟨RX8, TX8, 34, tyX8, rfl, by decide, inG_X8, (gm_3 39 rfl rfl), tyX8_ok, nmX8, fun h => absurd h (by decide)⟩
theorem fl_X8_16 : gFL RX8 16 8 2 := ⟨RX8, TX8, 34, tyX8, rfl, by decide, inG_X8, (gm_3 40 rfl rfl), tyX8_ok, nmX8, fun h => absurd h (by decide)⟩
theorem fl_X8_25 : gFL RX8 25 8 5 := ⟨RX8, TX8, 34, tyX8, rfl, by decide, inG_X8, (gm_3 43 rfl rfl), tyX8_ok, nmX8, fun h => absurd h (by decide)⟩
theorem fl_X8_28 : gFL RX8 28 8 6 := ⟨RX8, TX8, 34, tyX8, rfl, by decide, inG_X8, (gm_3 44 rfl rfl), tyX8_ok, nmX8, fun _ => rfl⟩
theorem fl_X8_32 : gFL RX8 32 8 7 := ⟨RX8, TX8, 34, tyX8, rfl, by decide, inG_X8, (gm_3 45 rfl rfl), tyX8_ok, nmX8, fun _ => rfl⟩
theorem fl_X8_35 : gFL RX8 35 8 8 := ⟨RX8, TX8, 34, tyX8, rfl, by decide, inG_X8, (gm_3 46 rfl rfl), tyX8_ok, nmX8, fun _ => rfl⟩
theorem fl_X8_38 : gFL RX8 38 8 9 := ⟨RX8, TX8, 34, tyX8, rfl, by decide, inG_X8, (gm_3 47 rfl rfl), tyX8_ok, nmX8, fun _ => rfl⟩
theorem fl_X8_44 : gFL RX8 44 8 11 := ⟨RX8, TX8, 34, tyX8, rfl, by decide, inG_X8, (gm_3 49 rfl rfl), tyX8_ok, nmX8, fun h => absurd h (by decide)⟩
theorem fl_X8_47 : gFL RX8 47 8 12 := ⟨RX8, TX8, 34, tyX8, rfl, by decide, inG_X8, (gm_3 50 rfl rfl), tyX8_ok, nmX8, fun h => absurd h (by decide)⟩
theorem fl_X8_50 : gFL RX8 50 8 13 := ⟨RX8, TX8, 34, tyX8, rfl, by decide, inG_X8, (gm_3 51 rfl rfl), tyX8_ok, nmX8, fun h => absurd h (by decide)⟩
theorem fl_X8_53 : gFL RX8 53 8 14 := ⟨RX8, TX8, 34, tyX8, rfl, by decide, inG_X8, (gm_3 52 rfl rfl), tyX8_ok, nmX8, fun h => absurd h (by decide)⟩
theorem fl_X8_56 : gFL RX8 56 8 15 := ⟨RX8, TX8, 34, tyX8, rfl, by decide, inG_X8, (gm_3 53 rfl rfl), tyX8_ok, nmX8, fun h => absurd h (by decide)⟩
theorem cv_X8_110 : gCS RX8 110 yX8_far cX8_far 2 (some .int) 2 := ⟨(gm_3 181 rfl rfl), (gm_3 182 rfl rfl), (gm_1 9 rfl rfl), (gm_3 183 rfl rfl), ⟨by decide, by decide, by decide +kernel⟩, by decide⟩
theorem cv_X8_114 : gCV RX8 114 yX8_place cX8_place 3 (some .int) 2 8 := ⟨TX8, 34, rfl, (gm_3 172 rfl rfl), (gm_3 174 rfl rfl), (gm_s 18 rfl rfl), (gm_1 9 rfl rfl), (gm_3 175 rfl rfl), ⟨by decide, by decide, by decide +kernel⟩, by decide⟩
theorem cv_X8_118 : gCV RX8 118 yX8_readCost cX8_readCost 6 (some .int) 3 8 := ⟨TX8, 34, rfl, (gm_3 177 rfl rfl), (gm_3 179 rfl rfl), (gm_s 19 rfl rfl), (gm_1 9 rfl rfl), (gm_3 180 rfl rfl), ⟨by decide, by decide, by decide +kernel⟩, by decide⟩
theorem cv_X8_122 : gCV RX8 122 yX8_shapeCost cX8_shapeCost 3 (some .int) 2 8 := ⟨TX8, 34, rfl, (gm_3 184 rfl rfl), (gm_3 186 rfl rfl), (gm_s 20 rfl rfl), (gm_1 9 rfl rfl), (gm_3 187 rfl rfl), ⟨by decide, by decide, by decide +kernel⟩, by decide⟩
/-! ===== the laying of the reference ===== -/
def mMs (s : gS) : Prop := (1 ≤ s.1 400 6 ∧ s.1 400 6 ≤ 8) ∧ (0 ≤ s.1 400 7 ∧ s.1 400 7 ≤ 1000) ∧ (0 ≤ s.1 400 8 ∧ s.1 400 8 ≤ 1000) ∧ (0 ≤ s.1 400 9 ∧ s.1 400 9 ≤ 10000) ∧ (0 ≤ s.1 400 10 ∧ s.1 400 10 ≤ 1000)
def mM (s : gS) : Nat → Int := fun j => s.1 400 (6 + j)
def mRdF (s : gS) (r : Int) : Int → Int := fun i => s.2 406 ((120 * r) + i)
def mPtF (s : gS) (p : Int) : Int → Int := fun k => s.2 402 ((24 * p) + k)
def mBtF (s : gS) (p : Int) : Int → Int := fun k => s.2 403 ((24 * p) + k)
def mB (s : gS) : Int → Int → Int := fun k i => s.2 412 ((121 * k) + i)
def mPR (s : gS) (r p n all : Int) : Prop := (∀ k : Int, 0 ≤ k → k < n → (0 ≤ s.2 402 ((24 * p) + k) ∧ s.2 402 ((24 * p) + k) ≤ 4800) ∧ (1 ≤ s.2 403 ((24 * p) + k) ∧ s.2 403 ((24 * p) + k) ≤ 8)) ∧ ∀ i : Int, 0 ≤ i → i < all → -1 ≤ s.2 406 ((120 * r) + i) ∧ s.2 406 ((120 * r) + i) ≤ 4800
def mDP (s : gS) (r p n all : Int) : Prop := gDP (mM s) (mRdF s r) (mPtF s p) (mBtF s p) n all (mB s)
def mBd (s : gS) (n all : Int) : Prop := ∀ k i : Int, 0 ≤ k → k ≤ n → 0 ≤ i → i ≤ all → 0 ≤ s.2 412 ((121 * k) + i) ∧ s.2 412 ((121 * k) + i) ≤ 1000000000
def mV (s : gS) : Prop := mMs s ∧ (∀ r : Int, 0 ≤ r → r < 10 → (0 ≤ s.2 404 r ∧ s.2 404 r < 6) ∧ (0 ≤ s.2 405 r ∧ s.2 405 r ≤ 120) ∧ ∀ i : Int, 0 ≤ i → i < s.2 405 r → -1 ≤ s.2 406 ((120 * r) + i) ∧ s.2 406 ((120 * r) + i) ≤ 4800) ∧ ∀ p : Int, 0 ≤ p → p < 6 → (0 ≤ s.2 401 p ∧ s.2 401 p ≤ 24) ∧ ∀ k : Int, 0 ≤ k → k < s.2 401 p → (0 ≤ s.2 402 ((24 * p) + k) ∧ s.2 402 ((24 * p) + k) ≤ 4800) ∧ (1 ≤ s.2 403 ((24 * p) + k) ∧ s.2 403 ((24 * p) + k) ≤ 8)
/-- what the rows take, first, offs, hasOff hold of note k that begins at pos -/
def mnote (t : gS) (rd pt : Int → Int) (k ps : Int) : Prop := t.2 414 k = ps ∧ (t.2 416 k = if gof (fun q => rd (ps + q)) (pt k) (t.2 413 k) = -100000 then 0 else 1) ∧ t.2 415 k = if gof (fun q => rd (ps + q)) (pt k) (t.2 413 k) = -100000 then 0 else gof (fun q => rd (ps + q)) (pt k) (t.2 413 k)
def mtook (s t : gS) (r p n all : Int) : Prop := t.1 = s.1 ∧ (∀ q : Int, ¬ (413 ≤ q ∧ q ≤ 416) → t.2 q = s.2 q) ∧ ∃ pos : Int → Int, gTk (mM s) (mRdF s r) (mPtF s p) (mBtF s p) n all (mB s) pos (t.2 413) ∧ ∀ k : Int, 0 ≤ k → k < n → mnote t (mRdF s r) (mPtF s p) k (pos k)
def mLaid (t : gS) (r v : Int) : Prop := ∃ (B : Int → Int → Int) (pos : Int → Int), gDP (mM t) (mRdF t r) (mPtF t (t.2 404 r)) (mBtF t (t.2 404 r)) (t.2 401 (t.2 404 r)) (t.2 405 r) B ∧ gTk (mM t) (mRdF t r) (mPtF t (t.2 404 r)) (mBtF t (t.2 404 r)) (t.2 401 (t.2 404 r)) (t.2 405 r) B pos (t.2 413) ∧ v = B 0 0 ∧ ∀ k : Int, 0 ≤ k → k < t.2 401 (t.2 404 r) → mnote t (mRdF t r) (mPtF t (t.2 404 r)) k (pos k)
def mlays (s t : gS) (r v : Int) : Prop := (s.2 401 (s.2 404 r) = 0 → v = -1 ∧ t = s) ∧ (¬ s.2 401 (s.2 404 r) = 0 → (t.1 = s.1 ∧ (∀ q : Int, ¬ (412 ≤ q ∧ q ≤ 416) → t.2 q = s.2 q)) ∧ (mLaid t r v ∧ 0 ≤ v ∧ v ≤ 1000000000))
theorem gfar_abs (a b : Int) : gfar a b = gabs (a - b) := by
  unfold gfar gabs
  by_cases h : a < b
  · rw [if_pos h, if_neg (by omega)]; omega
  · rw [if_neg h, if_pos (by omega)]
theorem gfloor {o c : Int} (hc : 0 < c) (ho : o < 0) : -((c - 1 - o).tdiv c) = o / c := by
  rw [Int.tdiv_eq_ediv_of_nonneg (by omega)]
  have h1 := Int.emod_nonneg o (by omega : c ≠ 0)
  have h2 := Int.emod_lt_of_pos o hc
  have h3 := Int.emod_add_mul_ediv o c
  have key : (c - 1 - o) / c = -(o / c) ∧ (c - 1 - o) % c = c - 1 - o % c := (Int.ediv_emod_unique hc).mpr ⟨by rw [Int.mul_neg]; omega, by omega, by omega⟩
  rw [key.1]; omega
set_option maxRecDepth 100000 in
set_option maxHeartbeats 4000000 in
theorem bk_X8_readCost_0 {X : gX} {G : gG} (hX : gOk X G cX8_readCost 6 RX8 (some .int) 2) {Q : Int → gS → Prop} (hE : gEnd X G (gPi (fun v s' => Q v s' ∧ gRg s'))) (s : gS) (hs : gRg s) (x1 : Int) (x2 : Int) (x3 : Int)  (h : (0 ≤ ((120 * x1) + x2) ∧ ((120 * x1) + x2) < 1200) ∧ ((¬ (s.2 406 ((120 * x1) + x2)) = (-1) → (0 ≤ x3 ∧ x3 < 144) ∧ (rng (gfar (s.2 406 ((120 * x1) + x2)) (s.2 402 x3))) ∧ ((300 ≤ (gfar (s.2 406 ((120 * x1) + x2)) (s.2 402 x3)) → Q 300 s) ∧ ((gfar (s.2 406 ((120 * x1) + x2)) (s.2 402 x3)) < 300 → Q (gfar (s.2 406 ((120 * x1) + x2)) (s.2 402 x3)) s))) ∧ ((s.2 406 ((120 * x1) + x2)) = (-1) → Q (s.1 400 7) s))) : gWL X G s 0 [(0, gR G 400), (1, vi x1), (2, vi x2), (3, vi x3)] [] := by
  refine g_aload_n hX dX8_readCost_0 0 rfl ?_
  refine g_getR hX sh_400 5 rfl fl_X8_25 dX8_readCost_1 ?_
  refine g_bipush hX dX8_readCost_4 rfl ?_
  refine g_iload_n hX dX8_readCost_6 1 rfl ?_
  refine g_imul hX dX8_readCost_7 ?_
  refine g_iload_n hX dX8_readCost_8 2 rfl ?_
  refine g_iadd hX dX8_readCost_9 ?_
  obtain ⟨h1, h⟩ := h
  refine g_iald hX sh_406 h1 (by decide) dX8_readCost_10 ?_
  refine g_istore (loc' := [(4, vi (s.2 406 ((120 * x1) + x2))), (0, gR G 400), (1, vi x1), (2, vi x2), (3, vi x3)]) hX dX8_readCost_11 (by decide) rfl ?_
  refine g_iload hX dX8_readCost_13 0 rfl ?_
  refine g_iconst hX dX8_readCost_15 ?_
  refine g_icne (tgt := 24) hX (hs.2 _ _) (by unfold rng; omega) dX8_readCost_16 (by decide) (fun c2 => ?_) (fun c2 => ?_)
  · replace h := h.1 c2
    refine g_iload hX dX8_readCost_24 0 rfl ?_
    refine g_aload_n hX dX8_readCost_26 1 rfl ?_
    refine g_getR hX sh_400 1 rfl fl_X8_13 dX8_readCost_27 ?_
    refine g_iload_n hX dX8_readCost_30 4 rfl ?_
    obtain ⟨h3, h⟩ := h
    refine g_iald hX sh_402 h3 (by decide) dX8_readCost_31 ?_
    refine g_cSf (As := [vi (s.2 406 ((120 * x1) + x2)), vi (s.2 402 x3)]) hX (fun l => c_X8_far l hX.inj s (s.2 406 ((120 * x1) + x2)) (s.2 402 x3) hs (hs.2 _ _) (hs.2 _ _)) cv_X8_110 (by decide) rfl (Nat.le_of_ble_eq_true rfl) dX8_readCost_32 rfl (fun g4 => ?_)
    refine g_istore (loc' := [(5, vi (gfar (s.2 406 ((120 * x1) + x2)) (s.2 402 x3))), (4, vi (s.2 406 ((120 * x1) + x2))), (0, gR G 400), (1, vi x1), (2, vi x2), (3, vi x3)]) hX dX8_readCost_35 (by decide) rfl ?_
    refine g_iload hX dX8_readCost_37 0 rfl ?_
    refine g_sipush hX dX8_readCost_39 rfl ?_
    obtain ⟨h5, h⟩ := h
    refine g_icge (tgt := 50) hX h5 (by unfold rng; omega) dX8_readCost_42 (by decide) (fun c6 => ?_) (fun c6 => ?_)
    · replace h := h.1 c6
      refine g_sipush hX dX8_readCost_50 rfl ?_
      exact g_iret hX hE dX8_readCost_53 ⟨h, hs⟩
    · replace h := h.2 (Int.not_le.mp c6)
      refine g_iload hX dX8_readCost_45 0 rfl ?_
      refine g_goto (tgt := 53) hX dX8_readCost_47 (by decide) ?_
      exact g_iret hX hE dX8_readCost_53 ⟨h, hs⟩
  · replace h := h.2 (gnn c2)
    refine g_aload_n hX dX8_readCost_19 1 rfl ?_
    refine g_getI hX sh_400 7 rfl fl_X8_32 dX8_readCost_20 ?_
    exact g_iret hX hE dX8_readCost_23 ⟨h, hs⟩
set_option maxRecDepth 100000 in
set_option maxHeartbeats 4000000 in
theorem c_X8_readCost (l : Launch) {G : gG} (hG : gInj G) (s : gS) (x1 : Int) (x2 : Int) (x3 : Int) (p0 : gRg s) (p1 : 0 ≤ ((120 * x1) + x2) ∧ ((120 * x1) + x2) < 1200) (p2 : 0 ≤ x3 ∧ x3 < 144) (p3 : -1 ≤ (s.2 406 ((120 * x1) + x2)) ∧ (s.2 406 ((120 * x1) + x2)) ≤ 4800) (p4 : 0 ≤ (s.2 402 x3) ∧ (s.2 402 x3) ≤ 4800) : gMet l G yX8_readCost cX8_readCost 6 (some .int) 2 [gR G 400, vi x1, vi x2, vi x3] s (gPi (fun v s' => (v = (grc (s.1 400 7) (s.2 406 ((120 * x1) + x2)) (s.2 402 x3)) ∧ s' = s) ∧ gRg s')) := by
  refine gMet_of (plainFor_of_name (by decide)) hG (Nat.le_of_ble_eq_true rfl) (fun X hX hE => ?_)
  refine bk_X8_readCost_0 hX hE s p0 x1 x2 x3  ?_
  have hf : gfar (s.2 406 ((120 * x1) + x2)) (s.2 402 x3) = gabs (s.2 406 ((120 * x1) + x2) - s.2 402 x3) := gfar_abs _ _
  have hr : rng (gfar (s.2 406 ((120 * x1) + x2)) (s.2 402 x3)) := by rw [hf]; unfold gabs; split <;> exact rng_of (by omega) (by omega)
  refine ⟨p1, fun h => ⟨p2, hr, fun h2 => ⟨?_, rfl⟩, fun h2 => ⟨?_, rfl⟩⟩, fun h => ⟨(if_pos h).symm, rfl⟩⟩
  · unfold grc; rw [if_neg h, ← hf]; omega
  · unfold grc; rw [if_neg h, ← hf]; omega
set_option maxRecDepth 100000 in
set_option maxHeartbeats 4000000 in
theorem bk_X8_shapeCost_0 {X : gX} {G : gG} (hX : gOk X G cX8_shapeCost 3 RX8 (some .int) 2) {Q : Int → gS → Prop} (hE : gEnd X G (gPi (fun v s' => Q v s' ∧ gRg s'))) (s : gS) (hs : gRg s) (x1 : Int) (x2 : Int)  (h : (0 ≤ x1 ∧ x1 < 144) ∧ (rng x2) ∧ (rng ((s.2 403 x1) * (s.1 400 6))) ∧ ((¬ x2 = 0 → Q (((s.1 400 8) * (gfar x2 ((s.2 403 x1) * (s.1 400 6)))) + 0) s) ∧ (x2 = 0 → Q (((s.1 400 8) * (gfar x2 ((s.2 403 x1) * (s.1 400 6)))) + (s.1 400 9)) s))) : gWL X G s 0 [(0, gR G 400), (1, vi x1), (2, vi x2)] [] := by
  refine g_aload_n hX dX8_shapeCost_0 0 rfl ?_
  refine g_getI hX sh_400 8 rfl fl_X8_35 dX8_shapeCost_1 ?_
  refine g_iload_n hX dX8_shapeCost_4 2 rfl ?_
  refine g_aload_n hX dX8_shapeCost_5 0 rfl ?_
  refine g_getR hX sh_400 2 rfl fl_X8_16 dX8_shapeCost_6 ?_
  refine g_iload_n hX dX8_shapeCost_9 1 rfl ?_
  obtain ⟨h1, h⟩ := h
  refine g_iald hX sh_403 h1 (by decide) dX8_shapeCost_10 ?_
  refine g_aload_n hX dX8_shapeCost_11 0 rfl ?_
  refine g_getI hX sh_400 6 rfl fl_X8_28 dX8_shapeCost_12 ?_
  refine g_imul hX dX8_shapeCost_15 ?_
  obtain ⟨h2, h⟩ := h
  obtain ⟨h3, h⟩ := h
  refine g_cSf (As := [vi x2, vi ((s.2 403 x1) * (s.1 400 6))]) hX (fun l => c_X8_far l hX.inj s x2 ((s.2 403 x1) * (s.1 400 6)) hs h2 h3) cv_X8_110 (by decide) rfl (Nat.le_of_ble_eq_true rfl) dX8_shapeCost_16 rfl (fun g4 => ?_)
  refine g_imul hX dX8_shapeCost_19 ?_
  refine g_iload_n hX dX8_shapeCost_20 2 rfl ?_
  refine g_ifne (tgt := 31) hX h2 dX8_shapeCost_21 (by decide) (fun c5 => ?_) (fun c5 => ?_)
  · replace h := h.1 c5
    refine g_iconst hX dX8_shapeCost_31 ?_
    refine g_iadd hX dX8_shapeCost_32 ?_
    exact g_iret hX hE dX8_shapeCost_33 ⟨h, hs⟩
  · replace h := h.2 (gnn c5)
    refine g_aload_n hX dX8_shapeCost_24 0 rfl ?_
    refine g_getI hX sh_400 9 rfl fl_X8_38 dX8_shapeCost_25 ?_
    refine g_goto (tgt := 32) hX dX8_shapeCost_28 (by decide) ?_
    refine g_iadd hX dX8_shapeCost_32 ?_
    exact g_iret hX hE dX8_shapeCost_33 ⟨h, hs⟩
set_option maxRecDepth 100000 in
set_option maxHeartbeats 4000000 in
theorem c_X8_shapeCost (l : Launch) {G : gG} (hG : gInj G) (s : gS) (x1 : Int) (x2 : Int) (p0 : gRg s) (p1 : mMs s) (p2 : 0 ≤ x1 ∧ x1 < 144) (p3 : 0 ≤ x2 ∧ x2 ≤ 120) (p4 : 1 ≤ (s.2 403 x1) ∧ (s.2 403 x1) ≤ 8) : gMet l G yX8_shapeCost cX8_shapeCost 3 (some .int) 2 [gR G 400, vi x1, vi x2] s (gPi (fun v s' => (v = (gsc (s.1 400 6) (s.1 400 8) (s.1 400 9) x2 (s.2 403 x1)) ∧ s' = s) ∧ gRg s')) := by
  refine gMet_of (plainFor_of_name (by decide)) hG (Nat.le_of_ble_eq_true rfl) (fun X hX hE => ?_)
  refine bk_X8_shapeCost_0 hX hE s p0 x1 x2  ?_
  have hd := gmul_bd (a := s.2 403 x1) (b := s.1 400 6) (A := 8) (B := 8) (by omega) (by have := p1.1; omega)
  have hf : gfar x2 (s.2 403 x1 * s.1 400 6) = gabs (x2 - s.2 403 x1 * s.1 400 6) := gfar_abs _ _
  refine ⟨p2, rng_of (by omega) (by omega), rng_of (by omega) (by omega), fun h => ⟨?_, rfl⟩, fun h => ⟨?_, rfl⟩⟩
  · unfold gsc; rw [if_neg h, hf]
  · unfold gsc; rw [if_pos h, hf]
set_option maxRecDepth 100000 in
set_option maxHeartbeats 4000000 in
theorem bk_X8_place_0 {X : gX} {G : gG} (hX : gOk X G cX8_place 3 RX8 (some .int) 1) {Q : Int → gS → Prop} (hE : gEnd X G (gPi (fun v s' => Q v s' ∧ gRg s'))) (s : gS) (hs : gRg s) (x1 : Int) (x2 : Int)  (h : Q ((121 * x1) + x2) s) : gWL X G s 0 [(0, gR G 400), (1, vi x1), (2, vi x2)] [] := by
  refine g_bipush hX dX8_place_0 rfl ?_
  refine g_iload_n hX dX8_place_2 1 rfl ?_
  refine g_imul hX dX8_place_3 ?_
  refine g_iload_n hX dX8_place_4 2 rfl ?_
  refine g_iadd hX dX8_place_5 ?_
  exact g_iret hX hE dX8_place_6 ⟨h, hs⟩
set_option maxRecDepth 100000 in
set_option maxHeartbeats 4000000 in
theorem c_X8_place (l : Launch) {G : gG} (hG : gInj G) (s : gS) (x1 : Int) (x2 : Int) (p0 : gRg s) : gMet l G yX8_place cX8_place 3 (some .int) 1 [gR G 400, vi x1, vi x2] s (gPi (fun v s' => (v = ((121 * x1) + x2) ∧ s' = s) ∧ gRg s')) := by
  refine gMet_of (plainFor_of_name (by decide)) hG (Nat.le_of_ble_eq_true rfl) (fun X hX hE => ?_)
  refine bk_X8_place_0 hX hE s p0 x1 x2  ?_
  exact ⟨rfl, rfl⟩
set_option maxRecDepth 100000 in
set_option maxHeartbeats 4000000 in
theorem bk_X8_takes_0 {X : gX} {G : gG} (hX : gOk X G cX8_takes 13 RX8 none 3) {Q : gS → Prop} (hE : gEnd X G (gPv (fun s' => Q s' ∧ gRg s'))) (s : gS) (hs : gRg s) (x1 : Int) (x2 : Int) (x3 : Int) (x4 : Int)  (h : gWL X G s 6 [(0, gR G 400), (1, vi x1), (2, vi x2), (3, vi x3), (5, vi 0), (6, vi 0)] []) : gWL X G s 0 [(0, gR G 400), (1, vi x1), (2, vi x2), (3, vi x3), (4, vi x4)] [] := by
  refine g_iconst hX dX8_takes_0 ?_
  refine g_istore (loc' := [(5, vi 0), (0, gR G 400), (1, vi x1), (2, vi x2), (3, vi x3), (4, vi x4)]) hX dX8_takes_1 (by decide) rfl ?_
  refine g_iconst hX dX8_takes_3 ?_
  refine g_istore (loc' := [(6, vi 0), (5, vi 0), (0, gR G 400), (1, vi x1), (2, vi x2), (3, vi x3), (4, vi x4)]) hX dX8_takes_4 (by decide) rfl ?_
  exact g_sub [2, 3, 4, 5, 1, 0] rfl h
set_option maxRecDepth 100000 in
set_option maxHeartbeats 4000000 in
theorem bk_X8_takes_6 {X : gX} {G : gG} (hX : gOk X G cX8_takes 13 RX8 none 3) {Q : gS → Prop} (hE : gEnd X G (gPv (fun s' => Q s' ∧ gRg s'))) (s : gS) (hs : gRg s) (x1 : Int) (x2 : Int) (x3 : Int) (x5 : Int) (x6 : Int)  (h : (rng x6) ∧ (rng x3) ∧ ((x3 ≤ x6 → Q s) ∧ (x6 < x3 → gWL X G s 27 [(0, gR G 400), (1, vi x1), (2, vi x2), (3, vi x3), (5, vi x5), (6, vi x6), (7, vi ((24 * x2) + x6)), (8, vi 0), (9, vi 0)] []))) : gWL X G s 6 [(0, gR G 400), (1, vi x1), (2, vi x2), (3, vi x3), (5, vi x5), (6, vi x6)] [] := by
  refine g_iload hX dX8_takes_6 5 rfl ?_
  refine g_iload_n hX dX8_takes_8 3 rfl ?_
  obtain ⟨h1, h⟩ := h
  obtain ⟨h2, h⟩ := h
  refine g_icge (tgt := 257) hX h1 h2 dX8_takes_9 (by decide) (fun c3 => ?_) (fun c3 => ?_)
  · replace h := h.1 c3
    exact g_vret hX hE dX8_takes_257 ⟨h, hs⟩
  · replace h := h.2 (Int.not_le.mp c3)
    refine g_bipush hX dX8_takes_12 rfl ?_
    refine g_iload_n hX dX8_takes_14 2 rfl ?_
    refine g_imul hX dX8_takes_15 ?_
    refine g_iload hX dX8_takes_16 5 rfl ?_
    refine g_iadd hX dX8_takes_18 ?_
    refine g_istore (loc' := [(7, vi ((24 * x2) + x6)), (0, gR G 400), (1, vi x1), (2, vi x2), (3, vi x3), (5, vi x5), (6, vi x6)]) hX dX8_takes_19 (by decide) rfl ?_
    refine g_iconst hX dX8_takes_21 ?_
    refine g_istore (loc' := [(8, vi 0), (7, vi ((24 * x2) + x6)), (0, gR G 400), (1, vi x1), (2, vi x2), (3, vi x3), (5, vi x5), (6, vi x6)]) hX dX8_takes_22 (by decide) rfl ?_
    refine g_iconst hX dX8_takes_24 ?_
    refine g_istore (loc' := [(9, vi 0), (8, vi 0), (7, vi ((24 * x2) + x6)), (0, gR G 400), (1, vi x1), (2, vi x2), (3, vi x3), (5, vi x5), (6, vi x6)]) hX dX8_takes_25 (by decide) rfl ?_
    exact g_sub [3, 4, 5, 6, 7, 8, 2, 1, 0] rfl h
set_option maxRecDepth 100000 in
set_option maxHeartbeats 4000000 in
theorem bk_X8_takes_27 {X : gX} {G : gG} (hX : gOk X G cX8_takes 13 RX8 none 3) {Q : gS → Prop} (hE : gEnd X G (gPv (fun s' => Q s' ∧ gRg s'))) (s : gS) (hs : gRg s) (x1 : Int) (x2 : Int) (x3 : Int) (x5 : Int) (x6 : Int) (x7 : Int) (x8 : Int) (x9 : Int)  (h : (mMs s) ∧ (0 ≤ x7 ∧ x7 < 144) ∧ (0 ≤ x9 ∧ x9 ≤ 120) ∧ (1 ≤ (s.2 403 x7) ∧ (s.2 403 x7) ≤ 8) ∧ (0 ≤ ((121 * (x6 + 1)) + (x5 + x9)) ∧ ((121 * (x6 + 1)) + (x5 + x9)) < 3025) ∧ (0 ≤ ((121 * x6) + x5) ∧ ((121 * x6) + x5) < 3025) ∧ (rng ((x8 + (gsc (s.1 400 6) (s.1 400 8) (s.1 400 9) x9 (s.2 403 x7))) + (s.2 412 ((121 * (x6 + 1)) + (x5 + x9))))) ∧ ((((x8 + (gsc (s.1 400 6) (s.1 400 8) (s.1 400 9) x9 (s.2 403 x7))) + (s.2 412 ((121 * (x6 + 1)) + (x5 + x9)))) = (s.2 412 ((121 * x6) + x5)) → (0 ≤ x6 ∧ x6 < 24) ∧ (rng x5) ∧ (rng x9) ∧ gWL X G (gpA (gpA s 414 x6 x5) 413 x6 x9) 124 [(0, gR G 400), (1, vi x1), (2, vi x2), (3, vi x3), (5, vi x5), (6, vi x6), (7, vi x7), (9, vi x9), (10, vi 0), (11, vi 0), (12, vi x5)] []) ∧ (¬ (((x8 + (gsc (s.1 400 6) (s.1 400 8) (s.1 400 9) x9 (s.2 403 x7))) + (s.2 412 ((121 * (x6 + 1)) + (x5 + x9)))) = (s.2 412 ((121 * x6) + x5))) → (0 ≤ ((120 * x1) + (x5 + x9)) ∧ ((120 * x1) + (x5 + x9)) < 1200) ∧ (-1 ≤ (s.2 406 ((120 * x1) + (x5 + x9))) ∧ (s.2 406 ((120 * x1) + (x5 + x9))) ≤ 4800) ∧ (0 ≤ (s.2 402 x7) ∧ (s.2 402 x7) ≤ 4800) ∧ gWL X G s 27 [(0, gR G 400), (1, vi x1), (2, vi x2), (3, vi x3), (5, vi x5), (6, vi x6), (7, vi x7), (8, vi (x8 + (grc (s.1 400 7) (s.2 406 ((120 * x1) + (x5 + x9))) (s.2 402 x7)))), (9, vi (x9 + 1))] []))) : gWL X G s 27 [(0, gR G 400), (1, vi x1), (2, vi x2), (3, vi x3), (5, vi x5), (6, vi x6), (7, vi x7), (8, vi x8), (9, vi x9)] [] := by
  refine g_iload hX dX8_takes_27 7 rfl ?_
  refine g_aload_n hX dX8_takes_29 0 rfl ?_
  refine g_iload hX dX8_takes_30 6 rfl ?_
  refine g_iload hX dX8_takes_32 8 rfl ?_
  obtain ⟨h1, h⟩ := h
  obtain ⟨h2, h⟩ := h
  obtain ⟨h3, h⟩ := h
  obtain ⟨h4, h⟩ := h
  refine g_cVf (As := [vi x7, vi x9]) hX (fun l => c_X8_shapeCost l hX.inj s x7 x9 hs h1 h2 h3 h4) sh_400 cv_X8_122 (by decide) rfl (Nat.le_of_ble_eq_true rfl) dX8_takes_34 rfl (fun g5 => ?_)
  refine g_iadd hX dX8_takes_37 ?_
  refine g_aload_n hX dX8_takes_38 0 rfl ?_
  refine g_getR hX sh_400 11 rfl fl_X8_44 dX8_takes_39 ?_
  refine g_aload_n hX dX8_takes_42 0 rfl ?_
  refine g_iload hX dX8_takes_43 5 rfl ?_
  refine g_iconst hX dX8_takes_45 ?_
  refine g_iadd hX dX8_takes_46 ?_
  refine g_iload hX dX8_takes_47 4 rfl ?_
  refine g_iload hX dX8_takes_49 8 rfl ?_
  refine g_iadd hX dX8_takes_51 ?_
  refine g_cVf (As := [vi (x6 + 1), vi (x5 + x9)]) hX (fun l => c_X8_place l hX.inj s (x6 + 1) (x5 + x9) hs) sh_400 cv_X8_114 (by decide) rfl (Nat.le_of_ble_eq_true rfl) dX8_takes_52 rfl (fun g6 => ?_)
  obtain ⟨h7, h⟩ := h
  refine g_iald hX sh_412 h7 (by decide) dX8_takes_55 ?_
  refine g_iadd hX dX8_takes_56 ?_
  refine g_aload_n hX dX8_takes_57 0 rfl ?_
  refine g_getR hX sh_400 11 rfl fl_X8_44 dX8_takes_58 ?_
  refine g_aload_n hX dX8_takes_61 0 rfl ?_
  refine g_iload hX dX8_takes_62 5 rfl ?_
  refine g_iload hX dX8_takes_64 4 rfl ?_
  refine g_cVf (As := [vi x6, vi x5]) hX (fun l => c_X8_place l hX.inj s x6 x5 hs) sh_400 cv_X8_114 (by decide) rfl (Nat.le_of_ble_eq_true rfl) dX8_takes_66 rfl (fun g8 => ?_)
  obtain ⟨h9, h⟩ := h
  refine g_iald hX sh_412 h9 (by decide) dX8_takes_69 ?_
  obtain ⟨h10, h⟩ := h
  refine g_iceq (tgt := 96) hX h10 (hs.2 _ _) dX8_takes_70 (by decide) (fun c11 => ?_) (fun c11 => ?_)
  · replace h := h.1 c11
    refine g_aload_n hX dX8_takes_96 0 rfl ?_
    refine g_getR hX sh_400 13 rfl fl_X8_50 dX8_takes_97 ?_
    refine g_iload hX dX8_takes_100 5 rfl ?_
    refine g_iload hX dX8_takes_102 4 rfl ?_
    obtain ⟨h12, h⟩ := h
    obtain ⟨h13, h⟩ := h
    refine g_iast hX sh_414 h12 (by decide) dX8_takes_104 ?_
    refine g_aload_n hX dX8_takes_105 0 rfl ?_
    refine g_getR hX sh_400 12 rfl fl_X8_47 dX8_takes_106 ?_
    refine g_iload hX dX8_takes_109 5 rfl ?_
    refine g_iload hX dX8_takes_111 8 rfl ?_
    obtain ⟨h14, h⟩ := h
    refine g_iast hX sh_413 h12 (by decide) dX8_takes_113 ?_
    refine g_iconst hX dX8_takes_114 ?_
    refine g_istore (loc' := [(10, vi 0), (0, gR G 400), (1, vi x1), (2, vi x2), (3, vi x3), (5, vi x5), (6, vi x6), (7, vi x7), (8, vi x8), (9, vi x9)]) hX dX8_takes_115 (by decide) rfl ?_
    refine g_iconst hX dX8_takes_117 ?_
    refine g_istore (loc' := [(11, vi 0), (10, vi 0), (0, gR G 400), (1, vi x1), (2, vi x2), (3, vi x3), (5, vi x5), (6, vi x6), (7, vi x7), (8, vi x8), (9, vi x9)]) hX dX8_takes_118 (by decide) rfl ?_
    refine g_iload hX dX8_takes_120 6 rfl ?_
    refine g_istore (loc' := [(12, vi x5), (11, vi 0), (10, vi 0), (0, gR G 400), (1, vi x1), (2, vi x2), (3, vi x3), (5, vi x5), (6, vi x6), (7, vi x7), (8, vi x8), (9, vi x9)]) hX dX8_takes_122 (by decide) rfl ?_
    exact g_sub [3, 4, 5, 6, 7, 8, 9, 11, 2, 1, 0] rfl h
  · replace h := h.2 c11
    refine g_iload hX dX8_takes_73 7 rfl ?_
    refine g_aload_n hX dX8_takes_75 0 rfl ?_
    refine g_iload_n hX dX8_takes_76 1 rfl ?_
    refine g_iload hX dX8_takes_77 4 rfl ?_
    refine g_iload hX dX8_takes_79 8 rfl ?_
    refine g_iadd hX dX8_takes_81 ?_
    refine g_iload hX dX8_takes_82 6 rfl ?_
    obtain ⟨h15, h⟩ := h
    obtain ⟨h16, h⟩ := h
    obtain ⟨h17, h⟩ := h
    refine g_cVf (As := [vi x1, vi (x5 + x9), vi x7]) hX (fun l => c_X8_readCost l hX.inj s x1 (x5 + x9) x7 hs h15 h2 h16 h17) sh_400 cv_X8_118 (by decide) rfl (Nat.le_of_ble_eq_true rfl) dX8_takes_84 rfl (fun g18 => ?_)
    refine g_iadd hX dX8_takes_87 ?_
    refine g_istore (loc' := [(8, vi (x8 + (grc (s.1 400 7) (s.2 406 ((120 * x1) + (x5 + x9))) (s.2 402 x7)))), (0, gR G 400), (1, vi x1), (2, vi x2), (3, vi x3), (5, vi x5), (6, vi x6), (7, vi x7), (9, vi x9)]) hX dX8_takes_88 (by decide) rfl ?_
    refine g_iinc (loc' := [(9, vi (x9 + 1)), (8, vi (x8 + (grc (s.1 400 7) (s.2 406 ((120 * x1) + (x5 + x9))) (s.2 402 x7)))), (0, gR G 400), (1, vi x1), (2, vi x2), (3, vi x3), (5, vi x5), (6, vi x6), (7, vi x7)]) hX dX8_takes_90 8 rfl (by decide) rfl ?_
    refine g_goto (tgt := 27) hX dX8_takes_93 (by decide) ?_
    exact g_sub [2, 3, 4, 5, 6, 7, 8, 1, 0] rfl h
set_option maxRecDepth 100000 in
set_option maxHeartbeats 4000000 in
theorem bk_X8_takes_124 {X : gX} {G : gG} (hX : gOk X G cX8_takes 13 RX8 none 3) {Q : gS → Prop} (hE : gEnd X G (gPv (fun s' => Q s' ∧ gRg s'))) (s : gS) (hs : gRg s) (x1 : Int) (x2 : Int) (x3 : Int) (x5 : Int) (x6 : Int) (x7 : Int) (x9 : Int) (x10 : Int) (x11 : Int) (x12 : Int)  (h : (rng x12) ∧ (rng (x5 + x9)) ∧ (((x5 + x9) ≤ x12 → gWL X G s 187 [(0, gR G 400), (1, vi x1), (2, vi x2), (3, vi x3), (5, vi x5), (6, vi x6), (9, vi x9), (10, vi x10), (11, vi x11)] []) ∧ (x12 < (x5 + x9) → (0 ≤ ((120 * x1) + x12) ∧ ((120 * x1) + x12) < 1200) ∧ ((¬ (s.2 406 ((120 * x1) + x12)) = (-1) → (0 ≤ x7 ∧ x7 < 144) ∧ gWL X G s 124 [(0, gR G 400), (1, vi x1), (2, vi x2), (3, vi x3), (5, vi x5), (6, vi x6), (7, vi x7), (9, vi x9), (10, vi (x10 + 1)), (11, vi (x11 + ((s.2 406 ((120 * x1) + x12)) - (s.2 402 x7)))), (12, vi (x12 + 1))] []) ∧ ((s.2 406 ((120 * x1) + x12)) = (-1) → gWL X G s 124 [(0, gR G 400), (1, vi x1), (2, vi x2), (3, vi x3), (5, vi x5), (6, vi x6), (7, vi x7), (9, vi x9), (10, vi x10), (11, vi x11), (12, vi (x12 + 1))] []))))) : gWL X G s 124 [(0, gR G 400), (1, vi x1), (2, vi x2), (3, vi x3), (5, vi x5), (6, vi x6), (7, vi x7), (9, vi x9), (10, vi x10), (11, vi x11), (12, vi x12)] [] := by
  refine g_iload hX dX8_takes_124 10 rfl ?_
  refine g_iload hX dX8_takes_126 4 rfl ?_
  refine g_iload hX dX8_takes_128 7 rfl ?_
  refine g_iadd hX dX8_takes_130 ?_
  obtain ⟨h1, h⟩ := h
  obtain ⟨h2, h⟩ := h
  refine g_icge (tgt := 187) hX h1 h2 dX8_takes_131 (by decide) (fun c3 => ?_) (fun c3 => ?_)
  · replace h := h.1 c3
    exact g_sub [0, 1, 2, 3, 4, 5, 7, 8, 9] rfl h
  · replace h := h.2 (Int.not_le.mp c3)
    refine g_aload_n hX dX8_takes_134 0 rfl ?_
    refine g_getR hX sh_400 5 rfl fl_X8_25 dX8_takes_135 ?_
    refine g_bipush hX dX8_takes_138 rfl ?_
    refine g_iload_n hX dX8_takes_140 1 rfl ?_
    refine g_imul hX dX8_takes_141 ?_
    refine g_iload hX dX8_takes_142 10 rfl ?_
    refine g_iadd hX dX8_takes_144 ?_
    obtain ⟨h4, h⟩ := h
    refine g_iald hX sh_406 h4 (by decide) dX8_takes_145 ?_
    refine g_iconst hX dX8_takes_146 ?_
    refine g_icne (tgt := 153) hX (hs.2 _ _) (by unfold rng; omega) dX8_takes_147 (by decide) (fun c5 => ?_) (fun c5 => ?_)
    · replace h := h.1 c5
      refine g_iinc (loc' := [(10, vi (x10 + 1)), (0, gR G 400), (1, vi x1), (2, vi x2), (3, vi x3), (5, vi x5), (6, vi x6), (7, vi x7), (9, vi x9), (11, vi x11), (12, vi x12)]) hX dX8_takes_153 8 rfl (by decide) rfl ?_
      refine g_iload hX dX8_takes_156 9 rfl ?_
      refine g_aload_n hX dX8_takes_158 1 rfl ?_
      refine g_getR hX sh_400 5 rfl fl_X8_25 dX8_takes_159 ?_
      refine g_bipush hX dX8_takes_162 rfl ?_
      refine g_iload_n hX dX8_takes_164 2 rfl ?_
      refine g_imul hX dX8_takes_165 ?_
      refine g_iload hX dX8_takes_166 10 rfl ?_
      refine g_iadd hX dX8_takes_168 ?_
      refine g_iald hX sh_406 h4 (by decide) dX8_takes_169 ?_
      refine g_aload_n hX dX8_takes_170 1 rfl ?_
      refine g_getR hX sh_400 1 rfl fl_X8_13 dX8_takes_171 ?_
      refine g_iload hX dX8_takes_174 7 rfl ?_
      obtain ⟨h6, h⟩ := h
      refine g_iald hX sh_402 h6 (by decide) dX8_takes_176 ?_
      refine g_isub hX dX8_takes_177 ?_
      refine g_iadd hX dX8_takes_178 ?_
      refine g_istore (loc' := [(11, vi (x11 + ((s.2 406 ((120 * x1) + x12)) - (s.2 402 x7)))), (10, vi (x10 + 1)), (0, gR G 400), (1, vi x1), (2, vi x2), (3, vi x3), (5, vi x5), (6, vi x6), (7, vi x7), (9, vi x9), (12, vi x12)]) hX dX8_takes_179 (by decide) rfl ?_
      refine g_iinc (loc' := [(12, vi (x12 + 1)), (11, vi (x11 + ((s.2 406 ((120 * x1) + x12)) - (s.2 402 x7)))), (10, vi (x10 + 1)), (0, gR G 400), (1, vi x1), (2, vi x2), (3, vi x3), (5, vi x5), (6, vi x6), (7, vi x7), (9, vi x9)]) hX dX8_takes_181 10 rfl (by decide) rfl ?_
      refine g_goto (tgt := 124) hX dX8_takes_184 (by decide) ?_
      exact g_sub [3, 4, 5, 6, 7, 8, 9, 10, 2, 1, 0] rfl h
    · replace h := h.2 (gnn c5)
      refine g_goto (tgt := 181) hX dX8_takes_150 (by decide) ?_
      refine g_iinc (loc' := [(12, vi (x12 + 1)), (0, gR G 400), (1, vi x1), (2, vi x2), (3, vi x3), (5, vi x5), (6, vi x6), (7, vi x7), (9, vi x9), (10, vi x10), (11, vi x11)]) hX dX8_takes_181 10 rfl (by decide) rfl ?_
      refine g_goto (tgt := 124) hX dX8_takes_184 (by decide) ?_
      exact g_sub [1, 2, 3, 4, 5, 6, 7, 8, 9, 10, 0] rfl h
set_option maxRecDepth 100000 in
set_option maxHeartbeats 4000000 in
theorem bk_X8_takes_187 {X : gX} {G : gG} (hX : gOk X G cX8_takes 13 RX8 none 3) {Q : gS → Prop} (hE : gEnd X G (gPv (fun s' => Q s' ∧ gRg s'))) (s : gS) (hs : gRg s) (x1 : Int) (x2 : Int) (x3 : Int) (x5 : Int) (x6 : Int) (x9 : Int) (x10 : Int) (x11 : Int)  (h : (rng x10) ∧ ((x10 ≤ 0 → (0 ≤ x6 ∧ x6 < 24) ∧ gWL X G (gpA s 416 x6 0) 204 [(0, gR G 400), (1, vi x1), (2, vi x2), (3, vi x3), (5, vi x5), (6, vi x6), (9, vi x9), (10, vi x10), (11, vi x11)] []) ∧ (0 < x10 → (0 ≤ x6 ∧ x6 < 24) ∧ gWL X G (gpA s 416 x6 1) 204 [(0, gR G 400), (1, vi x1), (2, vi x2), (3, vi x3), (5, vi x5), (6, vi x6), (9, vi x9), (10, vi x10), (11, vi x11)] []))) : gWL X G s 187 [(0, gR G 400), (1, vi x1), (2, vi x2), (3, vi x3), (5, vi x5), (6, vi x6), (9, vi x9), (10, vi x10), (11, vi x11)] [] := by
  refine g_aload_n hX dX8_takes_187 0 rfl ?_
  refine g_getR hX sh_400 15 rfl fl_X8_56 dX8_takes_188 ?_
  refine g_iload hX dX8_takes_191 5 rfl ?_
  refine g_iload hX dX8_takes_193 7 rfl ?_
  obtain ⟨h1, h⟩ := h
  refine g_ifle (tgt := 202) hX h1 dX8_takes_195 (by decide) (fun c2 => ?_) (fun c2 => ?_)
  · replace h := h.1 c2
    refine g_iconst hX dX8_takes_202 ?_
    obtain ⟨h3, h⟩ := h
    refine g_zast hX sh_416 h3 (by decide) (Or.inl rfl) dX8_takes_203 ?_
    exact h
  · replace h := h.2 (Int.not_le.mp c2)
    refine g_iconst hX dX8_takes_198 ?_
    refine g_goto (tgt := 203) hX dX8_takes_199 (by decide) ?_
    obtain ⟨h4, h⟩ := h
    refine g_zast hX sh_416 h4 (by decide) (Or.inr rfl) dX8_takes_203 ?_
    exact h
set_option maxRecDepth 100000 in
set_option maxHeartbeats 4000000 in
theorem bk_X8_takes_204 {X : gX} {G : gG} (hX : gOk X G cX8_takes 13 RX8 none 3) {Q : gS → Prop} (hE : gEnd X G (gPv (fun s' => Q s' ∧ gRg s'))) (s : gS) (hs : gRg s) (x1 : Int) (x2 : Int) (x3 : Int) (x5 : Int) (x6 : Int) (x9 : Int) (x10 : Int) (x11 : Int)  (h : (rng x10) ∧ ((¬ x10 = 0 → (rng x11) ∧ ((x11 < 0 → (rng ((x10 - 1) - x11)) ∧ (0 < x10) ∧ (0 ≤ x6 ∧ x6 < 24) ∧ (rng (-(((x10 - 1) - x11).tdiv x10))) ∧ gWL X G (gpA s 415 x6 (-(((x10 - 1) - x11).tdiv x10))) 6 [(0, gR G 400), (1, vi x1), (2, vi x2), (3, vi x3), (5, vi (x5 + x9)), (6, vi (x6 + 1))] []) ∧ (0 ≤ x11 → (0 < x10) ∧ (0 ≤ x6 ∧ x6 < 24) ∧ (rng (x11.tdiv x10)) ∧ gWL X G (gpA s 415 x6 (x11.tdiv x10)) 6 [(0, gR G 400), (1, vi x1), (2, vi x2), (3, vi x3), (5, vi (x5 + x9)), (6, vi (x6 + 1))] []))) ∧ (x10 = 0 → (0 ≤ x6 ∧ x6 < 24) ∧ gWL X G (gpA s 415 x6 0) 6 [(0, gR G 400), (1, vi x1), (2, vi x2), (3, vi x3), (5, vi (x5 + x9)), (6, vi (x6 + 1))] []))) : gWL X G s 204 [(0, gR G 400), (1, vi x1), (2, vi x2), (3, vi x3), (5, vi x5), (6, vi x6), (9, vi x9), (10, vi x10), (11, vi x11)] [] := by
  refine g_aload_n hX dX8_takes_204 0 rfl ?_
  refine g_getR hX sh_400 14 rfl fl_X8_53 dX8_takes_205 ?_
  refine g_iload hX dX8_takes_208 5 rfl ?_
  refine g_iload hX dX8_takes_210 7 rfl ?_
  obtain ⟨h1, h⟩ := h
  refine g_ifne (tgt := 219) hX h1 dX8_takes_212 (by decide) (fun c2 => ?_) (fun c2 => ?_)
  · replace h := h.1 c2
    refine g_iload hX dX8_takes_219 8 rfl ?_
    obtain ⟨h3, h⟩ := h
    refine g_iflt (tgt := 232) hX h3 dX8_takes_221 (by decide) (fun c4 => ?_) (fun c4 => ?_)
    · replace h := h.1 c4
      refine g_iload hX dX8_takes_232 7 rfl ?_
      refine g_iconst hX dX8_takes_234 ?_
      refine g_isub hX dX8_takes_235 ?_
      refine g_iload hX dX8_takes_236 8 rfl ?_
      refine g_isub hX dX8_takes_238 ?_
      refine g_iload hX dX8_takes_239 7 rfl ?_
      obtain ⟨h5, h⟩ := h
      obtain ⟨h6, h⟩ := h
      refine g_idiv hX h5 h1 h6 dX8_takes_241 ?_
      refine g_ineg hX dX8_takes_242 ?_
      obtain ⟨h7, h⟩ := h
      obtain ⟨h8, h⟩ := h
      refine g_iast hX sh_415 h7 (by decide) dX8_takes_243 ?_
      refine g_iload hX dX8_takes_244 4 rfl ?_
      refine g_iload hX dX8_takes_246 6 rfl ?_
      refine g_iadd hX dX8_takes_248 ?_
      refine g_istore (loc' := [(5, vi (x5 + x9)), (0, gR G 400), (1, vi x1), (2, vi x2), (3, vi x3), (6, vi x6), (9, vi x9), (10, vi x10), (11, vi x11)]) hX dX8_takes_249 (by decide) rfl ?_
      refine g_iinc (loc' := [(6, vi (x6 + 1)), (5, vi (x5 + x9)), (0, gR G 400), (1, vi x1), (2, vi x2), (3, vi x3), (9, vi x9), (10, vi x10), (11, vi x11)]) hX dX8_takes_251 5 rfl (by decide) rfl ?_
      refine g_goto (tgt := 6) hX dX8_takes_254 (by decide) ?_
      exact g_sub [2, 3, 4, 5, 1, 0] rfl h
    · replace h := h.2 (Int.not_lt.mp c4)
      refine g_iload hX dX8_takes_224 8 rfl ?_
      refine g_iload hX dX8_takes_226 7 rfl ?_
      obtain ⟨h9, h⟩ := h
      refine g_idiv hX h3 h1 h9 dX8_takes_228 ?_
      refine g_goto (tgt := 243) hX dX8_takes_229 (by decide) ?_
      obtain ⟨h10, h⟩ := h
      obtain ⟨h11, h⟩ := h
      refine g_iast hX sh_415 h10 (by decide) dX8_takes_243 ?_
      refine g_iload hX dX8_takes_244 4 rfl ?_
      refine g_iload hX dX8_takes_246 6 rfl ?_
      refine g_iadd hX dX8_takes_248 ?_
      refine g_istore (loc' := [(5, vi (x5 + x9)), (0, gR G 400), (1, vi x1), (2, vi x2), (3, vi x3), (6, vi x6), (9, vi x9), (10, vi x10), (11, vi x11)]) hX dX8_takes_249 (by decide) rfl ?_
      refine g_iinc (loc' := [(6, vi (x6 + 1)), (5, vi (x5 + x9)), (0, gR G 400), (1, vi x1), (2, vi x2), (3, vi x3), (9, vi x9), (10, vi x10), (11, vi x11)]) hX dX8_takes_251 5 rfl (by decide) rfl ?_
      refine g_goto (tgt := 6) hX dX8_takes_254 (by decide) ?_
      exact g_sub [2, 3, 4, 5, 1, 0] rfl h
  · replace h := h.2 (gnn c2)
    refine g_iconst hX dX8_takes_215 ?_
    refine g_goto (tgt := 243) hX dX8_takes_216 (by decide) ?_
    obtain ⟨h12, h⟩ := h
    refine g_iast hX sh_415 h12 (by decide) dX8_takes_243 ?_
    refine g_iload hX dX8_takes_244 4 rfl ?_
    refine g_iload hX dX8_takes_246 6 rfl ?_
    refine g_iadd hX dX8_takes_248 ?_
    refine g_istore (loc' := [(5, vi (x5 + x9)), (0, gR G 400), (1, vi x1), (2, vi x2), (3, vi x3), (6, vi x6), (9, vi x9), (10, vi x10), (11, vi x11)]) hX dX8_takes_249 (by decide) rfl ?_
    refine g_iinc (loc' := [(6, vi (x6 + 1)), (5, vi (x5 + x9)), (0, gR G 400), (1, vi x1), (2, vi x2), (3, vi x3), (9, vi x9), (10, vi x10), (11, vi x11)]) hX dX8_takes_251 5 rfl (by decide) rfl ?_
    refine g_goto (tgt := 6) hX dX8_takes_254 (by decide) ?_
    exact g_sub [2, 3, 4, 5, 1, 0] rfl h
set_option maxRecDepth 100000 in
set_option maxHeartbeats 4000000 in
theorem c_X8_takes (l : Launch) {G : gG} (hG : gInj G) (s : gS) (x1 : Int) (x2 : Int) (x3 : Int) (x4 : Int) (p0 : gRg s) (p1 : mMs s) (p2 : 0 ≤ x1 ∧ x1 < 10) (p3 : 0 ≤ x2 ∧ x2 < 6) (p4 : 0 ≤ x3 ∧ x3 ≤ 24) (p5 : 0 ≤ x4 ∧ x4 ≤ 120) (p6 : mPR s x1 x2 x3 x4) (p7 : mDP s x1 x2 x3 x4) (p8 : mBd s x3 x4) : gMet l G yX8_takes cX8_takes 13 none 3 [gR G 400, vi x1, vi x2, vi x3, vi x4] s (gPv (fun s' => (mtook s s' x1 x2 x3 x4) ∧ gRg s')) := by
  refine gMet_of (plainFor_of_name (by decide)) hG (Nat.le_of_ble_eq_true rfl) (fun X hX hE => ?_)
  refine bk_X8_takes_0 hX hE s p0 x1 x2 x3 x4  ?_
  obtain ⟨m0, m1, m2, m3, m4⟩ := p1
  have hpr := p6
  refine gloop (α := gS × (Int → Int)) (hi := x3) (fun k a => 0 ≤ k ∧ gRg a.1 ∧ a.1.1 = s.1 ∧ (∀ q : Int, ¬ (413 ≤ q ∧ q ≤ 416) → a.1.2 q = s.2 q) ∧ (0 ≤ a.2 k ∧ a.2 k ≤ x4) ∧ gTk (mM s) (mRdF s x1) (mPtF s x2) (mBtF s x2) k x4 (mB s) a.2 (a.1.2 413) ∧ ∀ q : Int, 0 ≤ q → q < k → mnote a.1 (mRdF s x1) (mPtF s x2) q (a.2 q)) (fun k a => gWL X G a.1 6 [(0, gR G 400), (1, vi x1), (2, vi x2), (3, vi x3), (5, vi (a.2 k)), (6, vi k)] []) ?_ ?_ 0 (s, fun _ => 0) p4.1 ⟨by omega, p0, rfl, fun _ _ => rfl, by show (0 : Int) ≤ 0 ∧ (0 : Int) ≤ _; omega, ⟨rfl, fun k k0 k1 => by omega⟩, fun q q0 q1 => by omega⟩
  · intro k ⟨t, pos⟩ hk ⟨hk0, hg, e1, e2, hp, htk, hn⟩ next
    dsimp only at hg e1 e2 hp htk hn ⊢
    have e402 : t.2 402 = s.2 402 := e2 _ (by decide)
    have e403 : t.2 403 = s.2 403 := e2 _ (by decide)
    have e406 : t.2 406 = s.2 406 := e2 _ (by decide)
    have e412 : t.2 412 = s.2 412 := e2 _ (by decide)
    have hpk := hpr.1 k hk0 hk
    have hmn := p7.2 k (pos k) hk0 hk hp.1 hp.2
    refine bk_X8_takes_6 hX hE t hg x1 x2 x3 (pos k) k ⟨rng_of (by omega) (by omega), rng_of (by omega) (by omega), fun h => by omega, fun _ => ?_⟩
    -- behind the search
    have hexit : ∀ v : Int, (0 ≤ v ∧ v ≤ x4 - pos k) → gCst (mM s) (mRdF s x1) (mPtF s x2) (mBtF s x2) k (pos k) v + mB s (k + 1) (pos k + v) = mB s k (pos k) → (∀ a : Int, 0 ≤ a → a < v → gCst (mM s) (mRdF s x1) (mPtF s x2) (mBtF s x2) k (pos k) a + mB s (k + 1) (pos k + a) ≠ mB s k (pos k)) → gWL X G (gpA (gpA t 414 k (pos k)) 413 k v) 124 [(0, gR G 400), (1, vi x1), (2, vi x2), (3, vi x3), (5, vi (pos k)), (6, vi k), (7, vi ((24 * x2) + k)), (9, vi v), (10, vi 0), (11, vi 0), (12, vi (pos k))] [] := by
      intro v hv hF hnF
      obtain ⟨u, hu⟩ : ∃ u : gS, u = gpA (gpA t 414 k (pos k)) 413 k v := ⟨_, rfl⟩
      have hgu : gRg u := by rw [hu]; exact gRg_A (gRg_A hg (rng_of (by omega) (by omega))) (rng_of (by omega) (by omega))
      have eu1 : u.1 = s.1 := by rw [hu]; exact e1
      have eu2 : ∀ q : Int, q ≠ 413 → q ≠ 414 → u.2 q = t.2 q := fun q q3 q4 => by rw [hu]; funext i; rw [gpA_nk q3, gpA_nk q4]
      have eu406 : u.2 406 = s.2 406 := (eu2 _ (by decide) (by decide)).trans e406
      have eu402 : u.2 402 = s.2 402 := (eu2 _ (by decide) (by decide)).trans e402
      rw [← hu]
      -- the next note
      have hend : ∀ ho of : Int, ho = (if gof (fun q => mRdF s x1 (pos k + q)) (mPtF s x2 k) v = -100000 then 0 else 1) → of = (if gof (fun q => mRdF s x1 (pos k + q)) (mPtF s x2 k) v = -100000 then 0 else gof (fun q => mRdF s x1 (pos k + q)) (mPtF s x2 k) v) → rng of → gWL X G (gpA (gpA u 416 k ho) 415 k of) 6 [(0, gR G 400), (1, vi x1), (2, vi x2), (3, vi x3), (5, vi (pos k + v)), (6, vi (k + 1))] [] := by
        intro ho of hho hof hrof
        have hrho : rng ho := by rw [hho]; split <;> exact rng_of (by omega) (by omega)
        have h413 : ∀ q, (gpA (gpA u 416 k ho) 415 k of).2 413 q = if q = k then v else t.2 413 q := fun q => by
          rw [gpA_nk (by decide), gpA_nk (by decide), hu]
          by_cases e : q = k
          · subst e; rw [gpA_eq, if_pos rfl]
          · rw [gpA_ni e, gpA_nk (by decide), if_neg e]
        have hz := next (gpA (gpA u 416 k ho) 415 k of, fun q => if q = k + 1 then pos k + v else pos q) ⟨by omega, gRg_A (gRg_A hgu hrho) hrof, eu1, fun q hq => ?_, ?_, ⟨?_, fun q q0 q1 => ?_⟩, fun q q0 q1 => ?_⟩
        · have ez : (fun q => if q = k + 1 then pos k + v else pos q) (k + 1) = pos k + v := if_pos rfl
          dsimp only at hz ez
          rw [ez] at hz
          exact hz
        · show (gpA (gpA u 416 k ho) 415 k of).2 q = s.2 q
          rw [← e2 q hq, ← eu2 q (by omega) (by omega)]
          funext i
          rw [gpA_nk (by omega), gpA_nk (by omega)]
        · show 0 ≤ (if k + 1 = k + 1 then pos k + v else _) ∧ (if k + 1 = k + 1 then pos k + v else _) ≤ x4
          rw [if_pos rfl]; omega
        · show (if (0 : Int) = k + 1 then pos k + v else pos 0) = 0
          rw [if_neg (by omega)]; exact htk.1
        · show (0 ≤ (gpA (gpA u 416 k ho) 415 k of).2 413 q ∧ (gpA (gpA u 416 k ho) 415 k of).2 413 q ≤ x4 - (if q = k + 1 then pos k + v else pos q)) ∧ (if q + 1 = k + 1 then pos k + v else pos (q + 1)) = (if q = k + 1 then pos k + v else pos q) + (gpA (gpA u 416 k ho) 415 k of).2 413 q ∧ gCst (mM s) (mRdF s x1) (mPtF s x2) (mBtF s x2) q (if q = k + 1 then pos k + v else pos q) ((gpA (gpA u 416 k ho) 415 k of).2 413 q) + mB s (q + 1) ((if q = k + 1 then pos k + v else pos q) + (gpA (gpA u 416 k ho) 415 k of).2 413 q) = mB s q (if q = k + 1 then pos k + v else pos q) ∧ ∀ a : Int, 0 ≤ a → a < (gpA (gpA u 416 k ho) 415 k of).2 413 q → gCst (mM s) (mRdF s x1) (mPtF s x2) (mBtF s x2) q (if q = k + 1 then pos k + v else pos q) a + mB s (q + 1) ((if q = k + 1 then pos k + v else pos q) + a) ≠ mB s q (if q = k + 1 then pos k + v else pos q)
          rw [if_neg (by omega : ¬ q = k + 1), h413]
          by_cases e : q = k
          · subst e
            rw [if_pos rfl, if_pos rfl]
            exact ⟨by omega, rfl, hF, hnF⟩
          · rw [if_neg e, if_neg (by omega)]
            exact htk.2 q q0 (by omega)
        · show mnote (gpA (gpA u 416 k ho) 415 k of) (mRdF s x1) (mPtF s x2) q (if q = k + 1 then pos k + v else pos q)
          rw [if_neg (by omega : ¬ q = k + 1)]
          unfold mnote
          rw [h413]
          by_cases e : q = k
          · subst e
            rw [if_pos rfl, gpA_eq, gpA_nk (by decide), gpA_nk (by decide), gpA_nk (by decide), gpA_eq, hu, gpA_nk (by decide), gpA_eq]
            exact ⟨rfl, hho, hof⟩
          · rw [if_neg e, gpA_nk (by decide), gpA_nk (by decide), gpA_nk (by decide), gpA_ni e, gpA_ni e, gpA_nk (by decide), hu, gpA_nk (by decide), gpA_ni e, gpA_nk (by decide), gpA_nk (by decide), gpA_nk (by decide), gpA_nk (by decide)]
            exact hn q q0 (by omega)
      -- off
      refine gloop (α := Int × Int) (hi := pos k + v) (fun i a => pos k ≤ i ∧ a.1 = gsum (fun q => if mRdF s x1 (pos k + q) = -1 then 0 else 1) (i - pos k) ∧ a.2 = gsum (fun q => if mRdF s x1 (pos k + q) = -1 then 0 else mRdF s x1 (pos k + q) - mPtF s x2 k) (i - pos k)) (fun i a => gWL X G u 124 [(0, gR G 400), (1, vi x1), (2, vi x2), (3, vi x3), (5, vi (pos k)), (6, vi k), (7, vi ((24 * x2) + k)), (9, vi v), (10, vi a.1), (11, vi a.2), (12, vi i)] []) ?_ ?_ (pos k) (0, 0) (by omega) ⟨by omega, by rw [show pos k - pos k = 0 by omega]; rfl, by rw [show pos k - pos k = 0 by omega]; rfl⟩
      · intro i ⟨c, o⟩ hi ⟨hi0, hc, ho⟩ next2
        dsimp only at hc ho ⊢
        have er : s.2 406 ((120 * x1) + i) = mRdF s x1 (pos k + (i - pos k)) := by unfold mRdF; rw [show pos k + (i - pos k) = i by omega]
        refine bk_X8_takes_124 hX hE u hgu x1 x2 x3 (pos k) k ((24 * x2) + k) v c o i ⟨rng_of (by omega) (by omega), rng_of (by omega) (by omega), fun h => by omega, fun _ => ⟨by omega, fun h => ⟨by omega, ?_⟩, fun h => ?_⟩⟩
        · rw [eu406] at h ⊢
          rw [eu402]
          rw [er] at h
          refine next2 (c + 1, o + (s.2 406 ((120 * x1) + i) - s.2 402 ((24 * x2) + k))) ⟨by omega, ?_, ?_⟩
          · show c + 1 = _
            rw [show i + 1 - pos k = (i - pos k) + 1 by omega, gsum_s _ (by omega), if_neg h, hc]
          · show o + _ = _
            rw [show i + 1 - pos k = (i - pos k) + 1 by omega, gsum_s _ (by omega), if_neg h, ho, er]
            rfl
        · rw [eu406, er] at h
          refine next2 (c, o) ⟨by omega, ?_, ?_⟩
          · show c = _
            rw [show i + 1 - pos k = (i - pos k) + 1 by omega, gsum_s _ (by omega), if_pos h, hc]; omega
          · show o = _
            rw [show i + 1 - pos k = (i - pos k) + 1 by omega, gsum_s _ (by omega), if_pos h, ho]; omega
      · intro ⟨c, o⟩ ⟨hi0, hc, ho⟩
        dsimp only at hc ho ⊢
        rw [show pos k + v - pos k = v by omega] at hc ho
        have hrdv : ∀ q : Int, 0 ≤ q → q < v → -1 ≤ mRdF s x1 (pos k + q) ∧ mRdF s x1 (pos k + q) ≤ 4800 := fun q q0 q1 => hpr.2 (pos k + q) (by omega) (by omega)
        have hcb := gsum_bd (f := fun q => if mRdF s x1 (pos k + q) = -1 then 0 else 1) (n := v) (lo := 0) (hi := 1) hv.1 (fun q _ _ => by split <;> omega)
        have hpt : 0 ≤ mPtF s x2 k ∧ mPtF s x2 k ≤ 4800 := hpk.1
        have hob := gsum_bd (f := fun q => if mRdF s x1 (pos k + q) = -1 then 0 else mRdF s x1 (pos k + q) - mPtF s x2 k) (n := v) (lo := -4800) (hi := 4800) hv.1 (fun q q0 q1 => by have := hrdv q q0 q1; split <;> omega)
        have hgb := gof_bd (rd := fun q => mRdF s x1 (pos k + q)) (p := mPtF s x2 k) (t := v) hv.1 hpt hrdv
        have hgo : gof (fun q => mRdF s x1 (pos k + q)) (mPtF s x2 k) v = if c = 0 then -100000 else o / c := by unfold gof; rw [← hc, ← ho]
        rw [← hc] at hcb
        rw [← ho] at hob
        -- 187, then 204
        have h204 : ∀ hof' : Int, hof' = (if gof (fun q => mRdF s x1 (pos k + q)) (mPtF s x2 k) v = -100000 then 0 else 1) → gWL X G (gpA u 416 k hof') 204 [(0, gR G 400), (1, vi x1), (2, vi x2), (3, vi x3), (5, vi (pos k)), (6, vi k), (9, vi v), (10, vi c), (11, vi o)] [] := by
          intro hof' hh
          have hrho : rng hof' := by rw [hh]; split <;> exact rng_of (by omega) (by omega)
          refine bk_X8_takes_204 hX hE _ (gRg_A hgu hrho) x1 x2 x3 (pos k) k v c o ⟨rng_of (by omega) (by omega), fun h => ⟨rng_of (by omega) (by omega), fun h2 => ?_, fun h2 => ?_⟩, fun h => ⟨by omega, ?_⟩⟩
          · have hfl := gfloor (o := o) (c := c) (by omega) h2
            rw [if_neg h] at hgo
            have hne : ¬ gof (fun q => mRdF s x1 (pos k + q)) (mPtF s x2 k) v = -100000 := by
              intro z
              rcases hgb with _ | q
              · have : -4800 ≤ o / c := Int.le_ediv_of_mul_le (by omega) (by
                  have := gsum_bd (f := fun q => if mRdF s x1 (pos k + q) = -1 then 0 else 1) (n := v) (lo := 0) (hi := 1) hv.1 (fun q _ _ => by split <;> omega)
                  have key := giter_ind (f := fun i a => a + (if mRdF s x1 (pos k + i) = -1 then 0 else mRdF s x1 (pos k + i) - mPtF s x2 k)) (a := (0 : Int)) (N := v) (fun i a => -4800 * gsum (fun q => if mRdF s x1 (pos k + q) = -1 then 0 else 1) i ≤ a) (by rw [gsum_0]; omega) (fun i a i0 i1 ha => by
                    have := hrdv i i0 i1
                    rw [gsum_s _ i0]
                    by_cases e : mRdF s x1 (pos k + i) = -1
                    · rw [if_pos e, if_pos e]; omega
                    · rw [if_neg e, if_neg e]; omega) v hv.1 (Int.le_refl v)
                  have key' : -4800 * gsum (fun q => if mRdF s x1 (pos k + q) = -1 then 0 else 1) v ≤ gsum (fun q => if mRdF s x1 (pos k + q) = -1 then 0 else mRdF s x1 (pos k + q) - mPtF s x2 k) v := key
                  rw [← hc, ← ho] at key'
                  exact key')
                omega
              · omega
            refine ⟨rng_of (by omega) (by omega), by omega, by omega, ?_, ?_⟩
            · rw [hfl, ← hgo]; exact rng_of (by omega) (by omega)
            · rw [hfl]
              exact hend _ _ hh (by rw [if_neg hne, hgo]) (by rw [← hgo]; exact rng_of (by omega) (by omega))
          · have htd : o.tdiv c = o / c := Int.tdiv_eq_ediv_of_nonneg h2
            rw [if_neg h] at hgo
            have hnn : 0 ≤ o / c := Int.ediv_nonneg h2 (by omega)
            have hne : ¬ gof (fun q => mRdF s x1 (pos k + q)) (mPtF s x2 k) v = -100000 := by omega
            refine ⟨by omega, by omega, ?_, ?_⟩
            · rw [htd, ← hgo]; exact rng_of (by omega) (by omega)
            · rw [htd]
              exact hend _ _ hh (by rw [if_neg hne, hgo]) (by rw [← hgo]; exact rng_of (by omega) (by omega))
          · rw [if_pos h] at hgo
            exact hend _ _ hh (by rw [if_pos hgo]) rng_0
        have h187 : gWL X G u 187 [(0, gR G 400), (1, vi x1), (2, vi x2), (3, vi x3), (5, vi (pos k)), (6, vi k), (9, vi v), (10, vi c), (11, vi o)] [] := by
          refine bk_X8_takes_187 hX hE u hgu x1 x2 x3 (pos k) k v c o ⟨rng_of (by omega) (by omega), fun h => ⟨by omega, h204 0 ?_⟩, fun h => ⟨by omega, h204 1 ?_⟩⟩
          · rw [hgo, if_pos (by omega : c = 0), if_pos rfl]
          · rw [if_neg]
            intro z
            rcases hgb with _ | q
            · rw [hgo, if_neg (by omega)] at z
              have : -4800 ≤ o / c := Int.le_ediv_of_mul_le (by omega) (by
                have key := giter_ind (f := fun i a => a + (if mRdF s x1 (pos k + i) = -1 then 0 else mRdF s x1 (pos k + i) - mPtF s x2 k)) (a := (0 : Int)) (N := v) (fun i a => -4800 * gsum (fun q => if mRdF s x1 (pos k + q) = -1 then 0 else 1) i ≤ a) (by rw [gsum_0]; omega) (fun i a i0 i1 ha => by
                  have := hrdv i i0 i1
                  rw [gsum_s _ i0]
                  by_cases e : mRdF s x1 (pos k + i) = -1
                  · rw [if_pos e, if_pos e]; omega
                  · rw [if_neg e, if_neg e]; omega) v hv.1 (Int.le_refl v)
                have key' : -4800 * gsum (fun q => if mRdF s x1 (pos k + q) = -1 then 0 else 1) v ≤ gsum (fun q => if mRdF s x1 (pos k + q) = -1 then 0 else mRdF s x1 (pos k + q) - mPtF s x2 k) v := key
                rw [← hc, ← ho] at key'
                exact key')
              omega
            · omega
        exact bk_X8_takes_124 hX hE u hgu x1 x2 x3 (pos k) k ((24 * x2) + k) v c o _ ⟨rng_of (by omega) (by omega), rng_of (by omega) (by omega), fun _ => h187, fun h => by omega⟩
    -- the search
    obtain ⟨⟨j, j0, j1, hj⟩, -⟩ := hmn
    have hstep : ∀ (i c : Int), i ≤ j → (0 ≤ i ∧ c = gsum (fun q => grc (s.1 400 7) (mRdF s x1 (pos k + q)) (mPtF s x2 k)) i ∧ ∀ a : Int, 0 ≤ a → a < i → gCst (mM s) (mRdF s x1) (mPtF s x2) (mBtF s x2) k (pos k) a + mB s (k + 1) (pos k + a) ≠ mB s k (pos k)) → gWL X G t 27 [(0, gR G 400), (1, vi x1), (2, vi x2), (3, vi x3), (5, vi (pos k)), (6, vi k), (7, vi ((24 * x2) + k)), (8, vi c), (9, vi i)] [] := by
      have hone : ∀ (i c : Int), i ≤ j → (0 ≤ i ∧ c = gsum (fun q => grc (s.1 400 7) (mRdF s x1 (pos k + q)) (mPtF s x2 k)) i ∧ ∀ a : Int, 0 ≤ a → a < i → gCst (mM s) (mRdF s x1) (mPtF s x2) (mBtF s x2) k (pos k) a + mB s (k + 1) (pos k + a) ≠ mB s k (pos k)) → (i < j → ¬ gCst (mM s) (mRdF s x1) (mPtF s x2) (mBtF s x2) k (pos k) i + mB s (k + 1) (pos k + i) = mB s k (pos k) → gWL X G t 27 [(0, gR G 400), (1, vi x1), (2, vi x2), (3, vi x3), (5, vi (pos k)), (6, vi k), (7, vi ((24 * x2) + k)), (8, vi (c + grc (s.1 400 7) (mRdF s x1 (pos k + i)) (mPtF s x2 k))), (9, vi (i + 1))] []) → gWL X G t 27 [(0, gR G 400), (1, vi x1), (2, vi x2), (3, vi x3), (5, vi (pos k)), (6, vi k), (7, vi ((24 * x2) + k)), (8, vi c), (9, vi i)] [] := by
        intro i c hij ⟨hi0, hc, hno⟩ hnext
        have hF : (c + gsc (s.1 400 6) (s.1 400 8) (s.1 400 9) i (s.2 403 ((24 * x2) + k))) + s.2 412 ((121 * (k + 1)) + (pos k + i)) = gCst (mM s) (mRdF s x1) (mPtF s x2) (mBtF s x2) k (pos k) i + mB s (k + 1) (pos k + i) := by
          unfold gCst; rw [hc]; rfl
        have hb := gCst_bd (M := mM s) (rd := mRdF s x1) (pt := mPtF s x2) (bt := mBtF s x2) (k := k) (i := pos k) (t := i) m0 m1 m2 m3 (by omega) hpk.2
        have hB := p8 (k + 1) (pos k + i) (by omega) (by omega) (by omega) (by omega)
        have hB' : 0 ≤ mB s (k + 1) (pos k + i) ∧ mB s (k + 1) (pos k + i) ≤ 1000000000 := hB
        refine bk_X8_takes_27 hX hE t hg x1 x2 x3 (pos k) k ((24 * x2) + k) c i ⟨by unfold mMs; rw [e1]; exact ⟨m0, m1, m2, m3, m4⟩, by omega, by omega, by rw [e403]; exact hpk.2, by omega, by omega, by rw [e1, e403, e412, hF]; exact rng_of (by omega) (by omega), fun h => ⟨by omega, rng_of (by omega) (by omega), rng_of (by omega) (by omega), ?_⟩, fun h => ?_⟩
        · rw [e1, e403, e412, hF] at h
          exact hexit i (by omega) h hno
        · rw [e1, e403, e412, hF] at h
          have hlt : i < j := by
            rcases Int.lt_or_le i j with q | q
            · exact q
            · have e : i = j := by omega
              rw [e] at h
              exact absurd hj.symm h
          refine ⟨by omega, by rw [e406]; exact hpr.2 (pos k + i) (by omega) (by omega), by rw [e402]; exact hpk.1, ?_⟩
          rw [e1, e406, e402]
          exact hnext hlt h
      refine gloop (α := Int) (hi := j) _ _ ?_ ?_
      · intro i c hi hI next2
        refine hone i c (by omega) hI (fun _ hne => next2 _ ⟨by omega, by rw [gsum_s _ hI.1, hI.2.1], fun a a0 a1 => ?_⟩)
        by_cases e : a = i
        · subst e; exact hne
        · exact hI.2.2 a a0 (by omega)
      · intro c hI
        exact hone j c (by omega) hI (fun h _ => by omega)
    exact hstep 0 0 j0 ⟨by omega, rfl, fun a a0 a1 => by omega⟩
  · intro ⟨t, pos⟩ ⟨hk0, hg, e1, e2, hp, htk, hn⟩
    dsimp only at hg e1 e2 hp htk hn ⊢
    exact bk_X8_takes_6 hX hE t hg x1 x2 x3 (pos x3) x3 ⟨rng_of (by omega) (by omega), rng_of (by omega) (by omega), fun _ => ⟨e1, e2, pos, htk, hn⟩, fun h => by omega⟩

