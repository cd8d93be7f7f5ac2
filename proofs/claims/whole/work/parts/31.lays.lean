theorem fl_X8_7 : gFL RX8 7 8 0 := ⟨RX8, TX8, 34, tyX8, rfl, by decide, inG_X8, (gm_3 38 rfl rfl), tyX8_ok, nmX8, fun h => absurd h (by decide)⟩
theorem fl_X8_19 : gFL RX8 19 8 3 := ⟨RX8, TX8, 34, tyX8, rfl, by decide, inG_X8, (gm_3 41 rfl rfl), tyX8_ok, nmX8, fun h => absurd h (by decide)⟩
theorem fl_X8_22 : gFL RX8 22 8 4 := ⟨RX8, TX8, 34, tyX8, rfl, by decide, inG_X8, (gm_3 42 rfl rfl), tyX8_ok, nmX8, fun h => absurd h (by decide)⟩
theorem cv_X8_125 : gCV RX8 125 yX8_takes cX8_takes 13 none 4 8 := ⟨TX8, 34, rfl, (gm_3 188 rfl rfl), (gm_3 190 rfl rfl), (gm_s 21 rfl rfl), (gm_1 9 rfl rfl), (gm_3 191 rfl rfl), ⟨by decide, by decide, by decide +kernel⟩, by decide⟩
theorem ldc_X8_117 : Cond.constant RX8 117 (1000000000) ∈ gAll := (gm_3 176 rfl rfl)
def mRows (s t : gS) (r p n all k : Int) : Prop := (∀ i : Int, 0 ≤ i → i ≤ all → t.2 412 ((121 * n) + i) = if i = all then 0 else 1000000000) ∧ (∀ q i : Int, k < q → q < n → 0 ≤ i → i ≤ all → gMn (fun a => gCst (mM s) (mRdF s r) (mPtF s p) (mBtF s p) q i a + t.2 412 ((121 * (q + 1)) + (i + a))) 0 (all - i) (t.2 412 ((121 * q) + i))) ∧ ∀ q : Int, k < q → q ≤ n → (∀ i : Int, 0 ≤ i → i ≤ all → 0 ≤ t.2 412 ((121 * q) + i) ∧ t.2 412 ((121 * q) + i) ≤ 1000000000) ∧ t.2 412 ((121 * q) + all) ≤ 74000 * (n - q)
set_option maxRecDepth 100000 in
set_option maxHeartbeats 4000000 in
theorem bk_X8_lays_0 {X : gX} {G : gG} (hX : gOk X G cX8_lays 12 RX8 (some .int) 4) {Q : Int → gS → Prop} (hE : gEnd X G (gPi (fun v s' => Q v s' ∧ gRg s'))) (s : gS) (hs : gRg s) (x1 : Int)  (h : (0 ≤ x1 ∧ x1 < 10) ∧ (0 ≤ (s.2 404 x1) ∧ (s.2 404 x1) < 6) ∧ ((¬ (s.2 401 (s.2 404 x1)) = 0 → gWL X G s 31 [(0, gR G 400), (1, vi x1), (2, vi (s.2 404 x1)), (3, vi (s.2 401 (s.2 404 x1))), (4, vi (s.2 405 x1)), (5, vi 0)] []) ∧ ((s.2 401 (s.2 404 x1)) = 0 → Q (-1) s))) : gWL X G s 0 [(0, gR G 400), (1, vi x1)] [] := by
  refine g_aload_n hX dX8_lays_0 0 rfl ?_
  refine g_getR hX sh_400 3 rfl fl_X8_19 dX8_lays_1 ?_
  refine g_iload_n hX dX8_lays_4 1 rfl ?_
  obtain ⟨h1, h⟩ := h
  refine g_iald hX sh_404 h1 (by decide) dX8_lays_5 ?_
  refine g_istore_n (loc' := [(2, vi (s.2 404 x1)), (0, gR G 400), (1, vi x1)]) hX dX8_lays_6 (by decide) rfl ?_
  refine g_aload_n hX dX8_lays_7 1 rfl ?_
  refine g_getR hX sh_400 0 rfl fl_X8_7 dX8_lays_8 ?_
  refine g_iload_n hX dX8_lays_11 0 rfl ?_
  obtain ⟨h2, h⟩ := h
  refine g_iald hX sh_401 h2 (by decide) dX8_lays_12 ?_
  refine g_istore_n (loc' := [(3, vi (s.2 401 (s.2 404 x1))), (2, vi (s.2 404 x1)), (0, gR G 400), (1, vi x1)]) hX dX8_lays_13 (by decide) rfl ?_
  refine g_aload_n hX dX8_lays_14 2 rfl ?_
  refine g_getR hX sh_400 4 rfl fl_X8_22 dX8_lays_15 ?_
  refine g_iload_n hX dX8_lays_18 3 rfl ?_
  refine g_iald hX sh_405 h1 (by decide) dX8_lays_19 ?_
  refine g_istore (loc' := [(4, vi (s.2 405 x1)), (3, vi (s.2 401 (s.2 404 x1))), (2, vi (s.2 404 x1)), (0, gR G 400), (1, vi x1)]) hX dX8_lays_20 (by decide) rfl ?_
  refine g_iload_n hX dX8_lays_22 1 rfl ?_
  refine g_ifne (tgt := 28) hX (hs.2 _ _) dX8_lays_23 (by decide) (fun c3 => ?_) (fun c3 => ?_)
  · replace h := h.1 c3
    refine g_iconst hX dX8_lays_28 ?_
    refine g_istore (loc' := [(5, vi 0), (4, vi (s.2 405 x1)), (3, vi (s.2 401 (s.2 404 x1))), (2, vi (s.2 404 x1)), (0, gR G 400), (1, vi x1)]) hX dX8_lays_29 (by decide) rfl ?_
    exact g_sub [4, 5, 3, 2, 1, 0] rfl h
  · replace h := h.2 (gnn c3)
    refine g_iconst hX dX8_lays_26 ?_
    exact g_iret hX hE dX8_lays_27 ⟨h, hs⟩
set_option maxRecDepth 100000 in
set_option maxHeartbeats 4000000 in
theorem bk_X8_lays_31 {X : gX} {G : gG} (hX : gOk X G cX8_lays 12 RX8 (some .int) 4) {Q : Int → gS → Prop} (hE : gEnd X G (gPi (fun v s' => Q v s' ∧ gRg s'))) (s : gS) (hs : gRg s) (x1 : Int) (x2 : Int) (x3 : Int) (x4 : Int) (x5 : Int)  (h : (rng x5) ∧ (rng x4) ∧ ((x4 < x5 → gWL X G s 74 [(0, gR G 400), (1, vi x1), (2, vi x2), (3, vi x3), (4, vi x4), (5, vi (x3 - 1))] []) ∧ (x5 ≤ x4 → ((¬ x5 = x4 → (0 ≤ ((121 * x3) + x5) ∧ ((121 * x3) + x5) < 3025) ∧ gWL X G (gpA s 412 ((121 * x3) + x5) 1000000000) 31 [(0, gR G 400), (1, vi x1), (2, vi x2), (3, vi x3), (4, vi x4), (5, vi (x5 + 1))] []) ∧ (x5 = x4 → (0 ≤ ((121 * x3) + x5) ∧ ((121 * x3) + x5) < 3025) ∧ gWL X G (gpA s 412 ((121 * x3) + x5) 0) 31 [(0, gR G 400), (1, vi x1), (2, vi x2), (3, vi x3), (4, vi x4), (5, vi (x5 + 1))] []))))) : gWL X G s 31 [(0, gR G 400), (1, vi x1), (2, vi x2), (3, vi x3), (4, vi x4), (5, vi x5)] [] := by
  refine g_iload hX dX8_lays_31 5 rfl ?_
  refine g_iload hX dX8_lays_33 4 rfl ?_
  obtain ⟨h1, h⟩ := h
  obtain ⟨h2, h⟩ := h
  refine g_icgt (tgt := 69) hX h1 h2 dX8_lays_35 (by decide) (fun c3 => ?_) (fun c3 => ?_)
  · replace h := h.1 c3
    refine g_iload_n hX dX8_lays_69 3 rfl ?_
    refine g_iconst hX dX8_lays_70 ?_
    refine g_isub hX dX8_lays_71 ?_
    refine g_istore (loc' := [(5, vi (x3 - 1)), (0, gR G 400), (1, vi x1), (2, vi x2), (3, vi x3), (4, vi x4)]) hX dX8_lays_72 (by decide) rfl ?_
    exact g_sub [1, 2, 3, 4, 5, 0] rfl h
  · replace h := h.2 (Int.not_lt.mp c3)
    refine g_aload_n hX dX8_lays_38 0 rfl ?_
    refine g_getR hX sh_400 11 rfl fl_X8_44 dX8_lays_39 ?_
    refine g_aload_n hX dX8_lays_42 0 rfl ?_
    refine g_iload_n hX dX8_lays_43 3 rfl ?_
    refine g_iload hX dX8_lays_44 5 rfl ?_
    refine g_cVf (As := [vi x3, vi x5]) hX (fun l => c_X8_place l hX.inj s x3 x5 hs) sh_400 cv_X8_114 (by decide) rfl (Nat.le_of_ble_eq_true rfl) dX8_lays_46 rfl (fun g4 => ?_)
    refine g_iload hX dX8_lays_49 5 rfl ?_
    refine g_iload hX dX8_lays_51 4 rfl ?_
    refine g_icne (tgt := 60) hX h1 h2 dX8_lays_53 (by decide) (fun c5 => ?_) (fun c5 => ?_)
    · replace h := h.1 c5
      refine g_ldc (n := 1000000000) hX ldc_X8_117 dX8_lays_60 rfl ?_
      obtain ⟨h6, h⟩ := h
      refine g_iast hX sh_412 h6 (by decide) dX8_lays_62 ?_
      refine g_iinc (loc' := [(5, vi (x5 + 1)), (0, gR G 400), (1, vi x1), (2, vi x2), (3, vi x3), (4, vi x4)]) hX dX8_lays_63 5 rfl (by decide) rfl ?_
      refine g_goto (tgt := 31) hX dX8_lays_66 (by decide) ?_
      exact g_sub [1, 2, 3, 4, 5, 0] rfl h
    · replace h := h.2 (gnn c5)
      refine g_iconst hX dX8_lays_56 ?_
      refine g_goto (tgt := 62) hX dX8_lays_57 (by decide) ?_
      obtain ⟨h7, h⟩ := h
      refine g_iast hX sh_412 h7 (by decide) dX8_lays_62 ?_
      refine g_iinc (loc' := [(5, vi (x5 + 1)), (0, gR G 400), (1, vi x1), (2, vi x2), (3, vi x3), (4, vi x4)]) hX dX8_lays_63 5 rfl (by decide) rfl ?_
      refine g_goto (tgt := 31) hX dX8_lays_66 (by decide) ?_
      exact g_sub [1, 2, 3, 4, 5, 0] rfl h
set_option maxRecDepth 100000 in
set_option maxHeartbeats 4000000 in
theorem bk_X8_lays_74 {X : gX} {G : gG} (hX : gOk X G cX8_lays 12 RX8 (some .int) 4) {Q : Int → gS → Prop} (hE : gEnd X G (gPi (fun v s' => Q v s' ∧ gRg s'))) (s : gS) (hs : gRg s) (x1 : Int) (x2 : Int) (x3 : Int) (x4 : Int) (x5 : Int)  (h : (rng x5) ∧ ((x5 < 0 → (mMs s) ∧ (0 ≤ x1 ∧ x1 < 10) ∧ (0 ≤ x2 ∧ x2 < 6) ∧ (0 ≤ x3 ∧ x3 ≤ 24) ∧ (0 ≤ x4 ∧ x4 ≤ 120) ∧ (mPR s x1 x2 x3 x4) ∧ (mDP s x1 x2 x3 x4) ∧ (mBd s x3 x4) ∧ (∀ s11 : gS, ((mtook s s11 x1 x2 x3 x4) ∧ gRg s11) → Q (s11.2 412 0) s11)) ∧ (0 ≤ x5 → gWL X G s 91 [(0, gR G 400), (1, vi x1), (2, vi x2), (3, vi x3), (4, vi x4), (5, vi x5), (6, vi ((24 * x2) + x5)), (7, vi 0)] []))) : gWL X G s 74 [(0, gR G 400), (1, vi x1), (2, vi x2), (3, vi x3), (4, vi x4), (5, vi x5)] [] := by
  refine g_iload hX dX8_lays_74 5 rfl ?_
  obtain ⟨h1, h⟩ := h
  refine g_iflt (tgt := 218) hX h1 dX8_lays_76 (by decide) (fun c2 => ?_) (fun c2 => ?_)
  · replace h := h.1 c2
    refine g_aload_n hX dX8_lays_218 0 rfl ?_
    refine g_iload_n hX dX8_lays_219 1 rfl ?_
    refine g_iload_n hX dX8_lays_220 2 rfl ?_
    refine g_iload_n hX dX8_lays_221 3 rfl ?_
    refine g_iload hX dX8_lays_222 4 rfl ?_
    obtain ⟨h3, h⟩ := h
    obtain ⟨h4, h⟩ := h
    obtain ⟨h5, h⟩ := h
    obtain ⟨h6, h⟩ := h
    obtain ⟨h7, h⟩ := h
    obtain ⟨h8, h⟩ := h
    obtain ⟨h9, h⟩ := h
    obtain ⟨h10, h⟩ := h
    refine g_cVu (As := [vi x1, vi x2, vi x3, vi x4]) hX (fun l => c_X8_takes l hX.inj s x1 x2 x3 x4 hs h3 h4 h5 h6 h7 h8 h9 h10) sh_400 cv_X8_125 (by decide) rfl (Nat.le_of_ble_eq_true rfl) dX8_lays_224 rfl (fun s11 q12 => ?_)
    replace h := h s11 q12
    have rs11 : gRg s11 := q12.2
    refine g_aload_n hX dX8_lays_227 0 rfl ?_
    refine g_getR hX sh_400 11 rfl fl_X8_44 dX8_lays_228 ?_
    refine g_iconst hX dX8_lays_231 ?_
    refine g_iald hX sh_412 (by omega) (by decide) dX8_lays_232 ?_
    exact g_iret hX hE dX8_lays_233 ⟨h, rs11⟩
  · replace h := h.2 (Int.not_lt.mp c2)
    refine g_bipush hX dX8_lays_79 rfl ?_
    refine g_iload_n hX dX8_lays_81 2 rfl ?_
    refine g_imul hX dX8_lays_82 ?_
    refine g_iload hX dX8_lays_83 5 rfl ?_
    refine g_iadd hX dX8_lays_85 ?_
    refine g_istore (loc' := [(6, vi ((24 * x2) + x5)), (0, gR G 400), (1, vi x1), (2, vi x2), (3, vi x3), (4, vi x4), (5, vi x5)]) hX dX8_lays_86 (by decide) rfl ?_
    refine g_iconst hX dX8_lays_88 ?_
    refine g_istore (loc' := [(7, vi 0), (6, vi ((24 * x2) + x5)), (0, gR G 400), (1, vi x1), (2, vi x2), (3, vi x3), (4, vi x4), (5, vi x5)]) hX dX8_lays_89 (by decide) rfl ?_
    exact g_sub [2, 3, 4, 5, 6, 7, 1, 0] rfl h
set_option maxRecDepth 100000 in
set_option maxHeartbeats 4000000 in
theorem bk_X8_lays_91 {X : gX} {G : gG} (hX : gOk X G cX8_lays 12 RX8 (some .int) 4) {Q : Int → gS → Prop} (hE : gEnd X G (gPi (fun v s' => Q v s' ∧ gRg s'))) (s : gS) (hs : gRg s) (x1 : Int) (x2 : Int) (x3 : Int) (x4 : Int) (x5 : Int) (x6 : Int) (x7 : Int)  (h : (rng x7) ∧ (rng x4) ∧ ((x4 < x7 → gWL X G s 74 [(0, gR G 400), (1, vi x1), (2, vi x2), (3, vi x3), (4, vi x4), (5, vi (x5 - 1))] []) ∧ (x7 ≤ x4 → gWL X G s 108 [(0, gR G 400), (1, vi x1), (2, vi x2), (3, vi x3), (4, vi x4), (5, vi x5), (6, vi x6), (7, vi x7), (8, vi 1000000000), (9, vi 0), (10, vi 0)] []))) : gWL X G s 91 [(0, gR G 400), (1, vi x1), (2, vi x2), (3, vi x3), (4, vi x4), (5, vi x5), (6, vi x6), (7, vi x7)] [] := by
  refine g_iload hX dX8_lays_91 7 rfl ?_
  refine g_iload hX dX8_lays_93 4 rfl ?_
  obtain ⟨h1, h⟩ := h
  obtain ⟨h2, h⟩ := h
  refine g_icgt (tgt := 212) hX h1 h2 dX8_lays_95 (by decide) (fun c3 => ?_) (fun c3 => ?_)
  · replace h := h.1 c3
    refine g_iinc (loc' := [(5, vi (x5 - 1)), (0, gR G 400), (1, vi x1), (2, vi x2), (3, vi x3), (4, vi x4), (6, vi x6), (7, vi x7)]) hX dX8_lays_212 5 rfl (by decide) rfl ?_
    refine g_goto (tgt := 74) hX dX8_lays_215 (by decide) ?_
    exact g_sub [1, 2, 3, 4, 5, 0] rfl h
  · replace h := h.2 (Int.not_lt.mp c3)
    refine g_ldc (n := 1000000000) hX ldc_X8_117 dX8_lays_98 rfl ?_
    refine g_istore (loc' := [(8, vi 1000000000), (0, gR G 400), (1, vi x1), (2, vi x2), (3, vi x3), (4, vi x4), (5, vi x5), (6, vi x6), (7, vi x7)]) hX dX8_lays_100 (by decide) rfl ?_
    refine g_iconst hX dX8_lays_102 ?_
    refine g_istore (loc' := [(9, vi 0), (8, vi 1000000000), (0, gR G 400), (1, vi x1), (2, vi x2), (3, vi x3), (4, vi x4), (5, vi x5), (6, vi x6), (7, vi x7)]) hX dX8_lays_103 (by decide) rfl ?_
    refine g_iconst hX dX8_lays_105 ?_
    refine g_istore (loc' := [(10, vi 0), (9, vi 0), (8, vi 1000000000), (0, gR G 400), (1, vi x1), (2, vi x2), (3, vi x3), (4, vi x4), (5, vi x5), (6, vi x6), (7, vi x7)]) hX dX8_lays_106 (by decide) rfl ?_
    exact g_sub [3, 4, 5, 6, 7, 8, 9, 10, 2, 1, 0] rfl h
set_option maxRecDepth 100000 in
set_option maxHeartbeats 4000000 in
theorem bk_X8_lays_108 {X : gX} {G : gG} (hX : gOk X G cX8_lays 12 RX8 (some .int) 4) {Q : Int → gS → Prop} (hE : gEnd X G (gPi (fun v s' => Q v s' ∧ gRg s'))) (s : gS) (hs : gRg s) (x1 : Int) (x2 : Int) (x3 : Int) (x4 : Int) (x5 : Int) (x6 : Int) (x7 : Int) (x8 : Int) (x9 : Int) (x10 : Int)  (h : (rng (x7 + x10)) ∧ (rng x4) ∧ ((x4 < (x7 + x10) → (0 ≤ ((121 * x5) + x7) ∧ ((121 * x5) + x7) < 3025) ∧ (rng x8) ∧ gWL X G (gpA s 412 ((121 * x5) + x7) x8) 91 [(0, gR G 400), (1, vi x1), (2, vi x2), (3, vi x3), (4, vi x4), (5, vi x5), (6, vi x6), (7, vi (x7 + 1))] []) ∧ ((x7 + x10) ≤ x4 → (rng x10) ∧ ((x10 ≤ 0 → gWL X G s 142 [(0, gR G 400), (1, vi x1), (2, vi x2), (3, vi x3), (4, vi x4), (5, vi x5), (6, vi x6), (7, vi x7), (8, vi x8), (9, vi x9), (10, vi x10)] []) ∧ (0 < x10 → (0 ≤ ((120 * x1) + ((x7 + x10) - 1)) ∧ ((120 * x1) + ((x7 + x10) - 1)) < 1200) ∧ (0 ≤ x6 ∧ x6 < 144) ∧ (-1 ≤ (s.2 406 ((120 * x1) + ((x7 + x10) - 1))) ∧ (s.2 406 ((120 * x1) + ((x7 + x10) - 1))) ≤ 4800) ∧ (0 ≤ (s.2 402 x6) ∧ (s.2 402 x6) ≤ 4800) ∧ gWL X G s 142 [(0, gR G 400), (1, vi x1), (2, vi x2), (3, vi x3), (4, vi x4), (5, vi x5), (6, vi x6), (7, vi x7), (8, vi x8), (9, vi (x9 + (grc (s.1 400 7) (s.2 406 ((120 * x1) + ((x7 + x10) - 1))) (s.2 402 x6)))), (10, vi x10)] []))))) : gWL X G s 108 [(0, gR G 400), (1, vi x1), (2, vi x2), (3, vi x3), (4, vi x4), (5, vi x5), (6, vi x6), (7, vi x7), (8, vi x8), (9, vi x9), (10, vi x10)] [] := by
  refine g_iload hX dX8_lays_108 7 rfl ?_
  refine g_iload hX dX8_lays_110 10 rfl ?_
  refine g_iadd hX dX8_lays_112 ?_
  refine g_iload hX dX8_lays_113 4 rfl ?_
  obtain ⟨h1, h⟩ := h
  obtain ⟨h2, h⟩ := h
  refine g_icgt (tgt := 191) hX h1 h2 dX8_lays_115 (by decide) (fun c3 => ?_) (fun c3 => ?_)
  · replace h := h.1 c3
    refine g_aload_n hX dX8_lays_191 0 rfl ?_
    refine g_getR hX sh_400 11 rfl fl_X8_44 dX8_lays_192 ?_
    refine g_aload_n hX dX8_lays_195 0 rfl ?_
    refine g_iload hX dX8_lays_196 5 rfl ?_
    refine g_iload hX dX8_lays_198 7 rfl ?_
    refine g_cVf (As := [vi x5, vi x7]) hX (fun l => c_X8_place l hX.inj s x5 x7 hs) sh_400 cv_X8_114 (by decide) rfl (Nat.le_of_ble_eq_true rfl) dX8_lays_200 rfl (fun g4 => ?_)
    refine g_iload hX dX8_lays_203 8 rfl ?_
    obtain ⟨h5, h⟩ := h
    obtain ⟨h6, h⟩ := h
    refine g_iast hX sh_412 h5 (by decide) dX8_lays_205 ?_
    refine g_iinc (loc' := [(7, vi (x7 + 1)), (0, gR G 400), (1, vi x1), (2, vi x2), (3, vi x3), (4, vi x4), (5, vi x5), (6, vi x6), (8, vi x8), (9, vi x9), (10, vi x10)]) hX dX8_lays_206 7 rfl (by decide) rfl ?_
    refine g_goto (tgt := 91) hX dX8_lays_209 (by decide) ?_
    exact g_sub [1, 2, 3, 4, 5, 6, 7, 0] rfl h
  · replace h := h.2 (Int.not_lt.mp c3)
    refine g_iload hX dX8_lays_118 10 rfl ?_
    obtain ⟨h7, h⟩ := h
    refine g_ifle (tgt := 142) hX h7 dX8_lays_120 (by decide) (fun c8 => ?_) (fun c8 => ?_)
    · replace h := h.1 c8
      exact h
    · replace h := h.2 (Int.not_le.mp c8)
      refine g_iload hX dX8_lays_123 9 rfl ?_
      refine g_aload_n hX dX8_lays_125 0 rfl ?_
      refine g_iload_n hX dX8_lays_126 1 rfl ?_
      refine g_iload hX dX8_lays_127 7 rfl ?_
      refine g_iload hX dX8_lays_129 10 rfl ?_
      refine g_iadd hX dX8_lays_131 ?_
      refine g_iconst hX dX8_lays_132 ?_
      refine g_isub hX dX8_lays_133 ?_
      refine g_iload hX dX8_lays_134 6 rfl ?_
      obtain ⟨h9, h⟩ := h
      obtain ⟨h10, h⟩ := h
      obtain ⟨h11, h⟩ := h
      obtain ⟨h12, h⟩ := h
      refine g_cVf (As := [vi x1, vi ((x7 + x10) - 1), vi x6]) hX (fun l => c_X8_readCost l hX.inj s x1 ((x7 + x10) - 1) x6 hs h9 h10 h11 h12) sh_400 cv_X8_118 (by decide) rfl (Nat.le_of_ble_eq_true rfl) dX8_lays_136 rfl (fun g13 => ?_)
      refine g_iadd hX dX8_lays_139 ?_
      refine g_istore (loc' := [(9, vi (x9 + (grc (s.1 400 7) (s.2 406 ((120 * x1) + ((x7 + x10) - 1))) (s.2 402 x6)))), (0, gR G 400), (1, vi x1), (2, vi x2), (3, vi x3), (4, vi x4), (5, vi x5), (6, vi x6), (7, vi x7), (8, vi x8), (10, vi x10)]) hX dX8_lays_140 (by decide) rfl ?_
      exact g_sub [1, 2, 3, 4, 5, 6, 7, 8, 9, 0, 10] rfl h
set_option maxRecDepth 100000 in
set_option maxHeartbeats 4000000 in
theorem bk_X8_lays_142 {X : gX} {G : gG} (hX : gOk X G cX8_lays 12 RX8 (some .int) 4) {Q : Int → gS → Prop} (hE : gEnd X G (gPi (fun v s' => Q v s' ∧ gRg s'))) (s : gS) (hs : gRg s) (x1 : Int) (x2 : Int) (x3 : Int) (x4 : Int) (x5 : Int) (x6 : Int) (x7 : Int) (x8 : Int) (x9 : Int) (x10 : Int)  (h : (mMs s) ∧ (0 ≤ x6 ∧ x6 < 144) ∧ (0 ≤ x10 ∧ x10 ≤ 120) ∧ (1 ≤ (s.2 403 x6) ∧ (s.2 403 x6) ≤ 8) ∧ (0 ≤ ((121 * (x5 + 1)) + (x7 + x10)) ∧ ((121 * (x5 + 1)) + (x7 + x10)) < 3025) ∧ (rng ((x9 + (gsc (s.1 400 6) (s.1 400 8) (s.1 400 9) x10 (s.2 403 x6))) + (s.2 412 ((121 * (x5 + 1)) + (x7 + x10))))) ∧ (rng x8) ∧ ((x8 ≤ ((x9 + (gsc (s.1 400 6) (s.1 400 8) (s.1 400 9) x10 (s.2 403 x6))) + (s.2 412 ((121 * (x5 + 1)) + (x7 + x10)))) → gWL X G s 108 [(0, gR G 400), (1, vi x1), (2, vi x2), (3, vi x3), (4, vi x4), (5, vi x5), (6, vi x6), (7, vi x7), (8, vi x8), (9, vi x9), (10, vi (x10 + 1))] []) ∧ (((x9 + (gsc (s.1 400 6) (s.1 400 8) (s.1 400 9) x10 (s.2 403 x6))) + (s.2 412 ((121 * (x5 + 1)) + (x7 + x10)))) < x8 → gWL X G s 108 [(0, gR G 400), (1, vi x1), (2, vi x2), (3, vi x3), (4, vi x4), (5, vi x5), (6, vi x6), (7, vi x7), (8, vi ((x9 + (gsc (s.1 400 6) (s.1 400 8) (s.1 400 9) x10 (s.2 403 x6))) + (s.2 412 ((121 * (x5 + 1)) + (x7 + x10))))), (9, vi x9), (10, vi (x10 + 1))] []))) : gWL X G s 142 [(0, gR G 400), (1, vi x1), (2, vi x2), (3, vi x3), (4, vi x4), (5, vi x5), (6, vi x6), (7, vi x7), (8, vi x8), (9, vi x9), (10, vi x10)] [] := by
  refine g_iload hX dX8_lays_142 9 rfl ?_
  refine g_aload_n hX dX8_lays_144 0 rfl ?_
  refine g_iload hX dX8_lays_145 6 rfl ?_
  refine g_iload hX dX8_lays_147 10 rfl ?_
  obtain ⟨h1, h⟩ := h
  obtain ⟨h2, h⟩ := h
  obtain ⟨h3, h⟩ := h
  obtain ⟨h4, h⟩ := h
  refine g_cVf (As := [vi x6, vi x10]) hX (fun l => c_X8_shapeCost l hX.inj s x6 x10 hs h1 h2 h3 h4) sh_400 cv_X8_122 (by decide) rfl (Nat.le_of_ble_eq_true rfl) dX8_lays_149 rfl (fun g5 => ?_)
  refine g_iadd hX dX8_lays_152 ?_
  refine g_aload_n hX dX8_lays_153 0 rfl ?_
  refine g_getR hX sh_400 11 rfl fl_X8_44 dX8_lays_154 ?_
  refine g_aload_n hX dX8_lays_157 0 rfl ?_
  refine g_iload hX dX8_lays_158 5 rfl ?_
  refine g_iconst hX dX8_lays_160 ?_
  refine g_iadd hX dX8_lays_161 ?_
  refine g_iload hX dX8_lays_162 7 rfl ?_
  refine g_iload hX dX8_lays_164 10 rfl ?_
  refine g_iadd hX dX8_lays_166 ?_
  refine g_cVf (As := [vi (x5 + 1), vi (x7 + x10)]) hX (fun l => c_X8_place l hX.inj s (x5 + 1) (x7 + x10) hs) sh_400 cv_X8_114 (by decide) rfl (Nat.le_of_ble_eq_true rfl) dX8_lays_167 rfl (fun g6 => ?_)
  obtain ⟨h7, h⟩ := h
  refine g_iald hX sh_412 h7 (by decide) dX8_lays_170 ?_
  refine g_iadd hX dX8_lays_171 ?_
  refine g_istore (loc' := [(11, vi ((x9 + (gsc (s.1 400 6) (s.1 400 8) (s.1 400 9) x10 (s.2 403 x6))) + (s.2 412 ((121 * (x5 + 1)) + (x7 + x10))))), (0, gR G 400), (1, vi x1), (2, vi x2), (3, vi x3), (4, vi x4), (5, vi x5), (6, vi x6), (7, vi x7), (8, vi x8), (9, vi x9), (10, vi x10)]) hX dX8_lays_172 (by decide) rfl ?_
  refine g_iload hX dX8_lays_174 0 rfl ?_
  refine g_iload hX dX8_lays_176 9 rfl ?_
  obtain ⟨h8, h⟩ := h
  obtain ⟨h9, h⟩ := h
  refine g_icge (tgt := 185) hX h8 h9 dX8_lays_178 (by decide) (fun c10 => ?_) (fun c10 => ?_)
  · replace h := h.1 c10
    refine g_iinc (loc' := [(10, vi (x10 + 1)), (11, vi ((x9 + (gsc (s.1 400 6) (s.1 400 8) (s.1 400 9) x10 (s.2 403 x6))) + (s.2 412 ((121 * (x5 + 1)) + (x7 + x10))))), (0, gR G 400), (1, vi x1), (2, vi x2), (3, vi x3), (4, vi x4), (5, vi x5), (6, vi x6), (7, vi x7), (8, vi x8), (9, vi x9)]) hX dX8_lays_185 11 rfl (by decide) rfl ?_
    refine g_goto (tgt := 108) hX dX8_lays_188 (by decide) ?_
    exact g_sub [2, 3, 4, 5, 6, 7, 8, 9, 10, 11, 0] rfl h
  · replace h := h.2 (Int.not_le.mp c10)
    refine g_iload hX dX8_lays_181 0 rfl ?_
    refine g_istore (loc' := [(8, vi ((x9 + (gsc (s.1 400 6) (s.1 400 8) (s.1 400 9) x10 (s.2 403 x6))) + (s.2 412 ((121 * (x5 + 1)) + (x7 + x10))))), (11, vi ((x9 + (gsc (s.1 400 6) (s.1 400 8) (s.1 400 9) x10 (s.2 403 x6))) + (s.2 412 ((121 * (x5 + 1)) + (x7 + x10))))), (0, gR G 400), (1, vi x1), (2, vi x2), (3, vi x3), (4, vi x4), (5, vi x5), (6, vi x6), (7, vi x7), (9, vi x9), (10, vi x10)]) hX dX8_lays_183 (by decide) rfl ?_
    refine g_iinc (loc' := [(10, vi (x10 + 1)), (8, vi ((x9 + (gsc (s.1 400 6) (s.1 400 8) (s.1 400 9) x10 (s.2 403 x6))) + (s.2 412 ((121 * (x5 + 1)) + (x7 + x10))))), (11, vi ((x9 + (gsc (s.1 400 6) (s.1 400 8) (s.1 400 9) x10 (s.2 403 x6))) + (s.2 412 ((121 * (x5 + 1)) + (x7 + x10))))), (0, gR G 400), (1, vi x1), (2, vi x2), (3, vi x3), (4, vi x4), (5, vi x5), (6, vi x6), (7, vi x7), (9, vi x9)]) hX dX8_lays_185 11 rfl (by decide) rfl ?_
    refine g_goto (tgt := 108) hX dX8_lays_188 (by decide) ?_
    exact g_sub [3, 4, 5, 6, 7, 8, 9, 10, 1, 11, 0] rfl h
set_option maxRecDepth 100000 in
set_option maxHeartbeats 4000000 in
theorem c_X8_lays (l : Launch) {G : gG} (hG : gInj G) (s : gS) (x1 : Int) (p0 : gRg s) (p1 : 0 ≤ x1 ∧ x1 < 10) (p2 : mV s) : gMet l G yX8_lays cX8_lays 12 (some .int) 4 [gR G 400, vi x1] s (gPi (fun v s' => (mlays s s' x1 v) ∧ gRg s')) := by
  refine gMet_of (plainFor_of_name (by decide)) hG (Nat.le_of_ble_eq_true rfl) (fun X hX hE => ?_)
  refine bk_X8_lays_0 hX hE s p0 x1  ?_
  obtain ⟨⟨m0, m1, m2, m3, m4⟩, hvr, hvp⟩ := p2
  have hr := hvr x1 p1.1 p1.2
  have hp := hvp (s.2 404 x1) hr.1.1 hr.1.2
  unfold mlays at hE
  generalize hP : s.2 404 x1 = P at hr hp hE ⊢
  generalize hN : s.2 401 P = N at hp hE ⊢
  generalize hA : s.2 405 x1 = A at hr hE ⊢
  refine ⟨p1, hr.1, fun hn0 => ?_, fun h => ⟨fun _ => ⟨rfl, rfl⟩, fun z => absurd (by rw [hP, hN]; exact h) z⟩⟩
  have hPb := hr.1
  have hAb := hr.2.1
  have hNb := hp.1
  have rA : rng A := rng_of (by omega) (by omega)
  refine gloop (α := gS) (hi := A + 1) (fun i t => 0 ≤ i ∧ gRg t ∧ goff s t 412 ∧ ∀ j : Int, 0 ≤ j → j < i → t.2 412 ((121 * N) + j) = if j = A then 0 else 1000000000) (fun i t => gWL X G t 31 [(0, gR G 400), (1, vi x1), (2, vi P), (3, vi N), (4, vi A), (5, vi i)] []) ?_ ?_ 0 s (by omega) ⟨by omega, p0, goff.rf _ _, fun j j0 j1 => by omega⟩
  · intro i t hi ⟨hi0, hg, ho, hz⟩ next
    have hnext : ∀ v : Int, v = (if i = A then 0 else 1000000000) → gWL X G (gpA t 412 ((121 * N) + i) v) 31 [(0, gR G 400), (1, vi x1), (2, vi P), (3, vi N), (4, vi A), (5, vi (i + 1))] [] := by
      intro v hv
      refine next _ ⟨by omega, gRg_A hg (by rw [hv]; split <;> exact rng_of (by omega) (by omega)), ho.put _ _, fun j j0 j1 => ?_⟩
      by_cases e : j = i
      · subst e; rw [gpA_eq]; exact hv
      · rw [gpA_ni (by omega)]; exact hz j j0 (by omega)
    exact bk_X8_lays_31 hX hE t hg x1 P N A i ⟨rng_of (by omega) (by omega), rA, fun h => by omega, fun _ => ⟨fun h => ⟨by omega, hnext _ (by rw [if_neg h])⟩, fun h => ⟨by omega, hnext _ (by rw [if_pos h])⟩⟩⟩
  intro t ⟨_, hg, ho, hz⟩
  refine bk_X8_lays_31 hX hE t hg x1 P N A _ ⟨rng_of (by omega) (by omega), rA, fun _ => ?_, fun h => by omega⟩
  refine gloopD (α := gS) (lo := -1) (fun k t => k < N ∧ gRg t ∧ goff s t 412 ∧ mRows s t x1 P N A k) (fun k t => gWL X G t 74 [(0, gR G 400), (1, vi x1), (2, vi P), (3, vi N), (4, vi A), (5, vi k)] []) ?_ ?_ (N - 1) t (by omega) ⟨by omega, hg, ho, fun i i0 i1 => hz i i0 (by omega), fun q i a b => by omega, fun q a b => ?_⟩
  · intro k t hk ⟨hkn, hg, ho, hr1, hr2, hr3⟩ next
    refine bk_X8_lays_74 hX hE t hg x1 P N A k ⟨rng_of (by omega) (by omega), fun h => by omega, fun _ => ?_⟩
    have hpk := hp.2 k (by omega) hkn
    have hrow1 := hr3 (k + 1) (by omega) (by omega)
    refine gloop (α := gS) (hi := A + 1) (fun i u => 0 ≤ i ∧ gRg u ∧ goff s u 412 ∧ (∀ x : Int, ¬ (121 * k ≤ x ∧ x < 121 * k + 121) → u.2 412 x = t.2 412 x) ∧ ∀ j : Int, 0 ≤ j → j < i → gMn (fun a => gCst (mM s) (mRdF s x1) (mPtF s P) (mBtF s P) k j a + t.2 412 ((121 * (k + 1)) + (j + a))) 0 (A - j) (u.2 412 ((121 * k) + j))) (fun i u => gWL X G u 91 [(0, gR G 400), (1, vi x1), (2, vi P), (3, vi N), (4, vi A), (5, vi k), (6, vi ((24 * P) + k)), (7, vi i)] []) ?_ ?_ 0 t (by omega) ⟨by omega, hg, ho, fun _ _ => rfl, fun j j0 j1 => by omega⟩
    · intro i u hi ⟨hi0, hgu, hou, hux, hcells⟩ next2
      refine bk_X8_lays_91 hX hE u hgu x1 P N A k ((24 * P) + k) i ⟨rng_of (by omega) (by omega), rA, fun h => by omega, fun _ => ?_⟩
      have e1 : u.1 = s.1 := hou.1
      have e402 : u.2 402 = s.2 402 := hou.2 _ (by decide)
      have e403 : u.2 403 = s.2 403 := hou.2 _ (by decide)
      have e406 : u.2 406 = s.2 406 := hou.2 _ (by decide)
      have eB : ∀ j : Int, 0 ≤ j → j ≤ A → u.2 412 ((121 * (k + 1)) + j) = t.2 412 ((121 * (k + 1)) + j) := fun j j0 j1 => hux _ (by omega)
      have hFb : ∀ a : Int, 0 ≤ a → a ≤ A - i → (0 ≤ gCst (mM s) (mRdF s x1) (mPtF s P) (mBtF s P) k i a ∧ gCst (mM s) (mRdF s x1) (mPtF s P) (mBtF s P) k i a ≤ 250000) ∧ (0 ≤ t.2 412 ((121 * (k + 1)) + (i + a)) ∧ t.2 412 ((121 * (k + 1)) + (i + a)) ≤ 1000000000) := fun a a0 a1 =>
        ⟨gCst_bd (M := mM s) (rd := mRdF s x1) (pt := mPtF s P) (bt := mBtF s P) (k := k) (i := i) (t := a) m0 m1 m2 m3 (by omega) hpk.2, hrow1.1 (i + a) (by omega) (by omega)⟩
      -- the numbers of readings that the note may take
      refine gloop (α := Int × Int) (hi := A - i + 1) (fun a b => 0 ≤ a ∧ b.2 = gsum (fun q => grc (s.1 400 7) (mRdF s x1 (i + q)) (mPtF s P k)) (a - 1) ∧ ((a = 0 ∧ b.1 = 1000000000) ∨ (0 < a ∧ ∃ m : Int, gMn (fun a => gCst (mM s) (mRdF s x1) (mPtF s P) (mBtF s P) k i a + t.2 412 ((121 * (k + 1)) + (i + a))) 0 (a - 1) m ∧ b.1 = min 1000000000 m))) (fun a b => gWL X G u 108 [(0, gR G 400), (1, vi x1), (2, vi P), (3, vi N), (4, vi A), (5, vi k), (6, vi ((24 * P) + k)), (7, vi i), (8, vi b.1), (9, vi b.2), (10, vi a)] []) ?_ ?_ 0 (1000000000, 0) (by omega) ⟨by omega, rfl, Or.inl ⟨rfl, rfl⟩⟩
      · intro a ⟨be, su⟩ ha ⟨ha0, hsu, hbe⟩ next3
        dsimp only at hsu hbe ⊢
        have hFa := hFb a ha0 (by omega)
        have hbr : -2147483648 ≤ be ∧ be ≤ 1000000000 := by
          rcases hbe with ⟨_, h⟩ | ⟨_, m, ⟨⟨j, j0, j1, hj⟩, -⟩, h⟩
          · omega
          · have := hFb j j0 (by omega)
            dsimp only at hj
            omega
        -- with the sum made up
        have hmid : ∀ sv : Int, sv = gsum (fun q => grc (s.1 400 7) (mRdF s x1 (i + q)) (mPtF s P k)) a → gWL X G u 142 [(0, gR G 400), (1, vi x1), (2, vi P), (3, vi N), (4, vi A), (5, vi k), (6, vi ((24 * P) + k)), (7, vi i), (8, vi be), (9, vi sv), (10, vi a)] [] := by
          intro sv hsv
          have hF : (sv + gsc (s.1 400 6) (s.1 400 8) (s.1 400 9) a (s.2 403 ((24 * P) + k))) + t.2 412 ((121 * (k + 1)) + (i + a)) = gCst (mM s) (mRdF s x1) (mPtF s P) (mBtF s P) k i a + t.2 412 ((121 * (k + 1)) + (i + a)) := by
            unfold gCst; rw [hsv]; rfl
          have hgo : ∀ nb : Int, nb = min be (gCst (mM s) (mRdF s x1) (mPtF s P) (mBtF s P) k i a + t.2 412 ((121 * (k + 1)) + (i + a))) → gWL X G u 108 [(0, gR G 400), (1, vi x1), (2, vi P), (3, vi N), (4, vi A), (5, vi k), (6, vi ((24 * P) + k)), (7, vi i), (8, vi nb), (9, vi sv), (10, vi (a + 1))] [] := by
            intro nb hnb
            refine next3 (nb, sv) ⟨by omega, by show sv = _; rw [show a + 1 - 1 = a by omega]; exact hsv, Or.inr ⟨by omega, ?_⟩⟩
            rw [show a + 1 - 1 = a by omega]
            rcases hbe with ⟨h0, h⟩ | ⟨h0, m, hm, h⟩
            · have h1 := gMn.one (fun a => gCst (mM s) (mRdF s x1) (mPtF s P) (mBtF s P) k i a + t.2 412 ((121 * (k + 1)) + (i + a))) a
              refine ⟨_, by rw [← h0]; exact h1, ?_⟩
              show nb = min 1000000000 (gCst (mM s) (mRdF s x1) (mPtF s P) (mBtF s P) k i a + t.2 412 ((121 * (k + 1)) + (i + a)))
              rw [hnb, h]
            · have h1 := hm.up (by omega)
              rw [show a - 1 + 1 = a by omega] at h1
              refine ⟨_, h1, ?_⟩
              show nb = min 1000000000 (min m (gCst (mM s) (mRdF s x1) (mPtF s P) (mBtF s P) k i a + t.2 412 ((121 * (k + 1)) + (i + a))))
              rw [hnb, h]; omega
          refine bk_X8_lays_142 hX hE u hgu x1 P N A k ((24 * P) + k) i be sv a ⟨by unfold mMs; rw [e1]; exact ⟨m0, m1, m2, m3, m4⟩, by omega, by omega, by rw [e403]; exact hpk.2, by omega, ?_, rng_of (by omega) (by omega), fun h => ?_, fun h => ?_⟩
          · rw [e1, e403, eB (i + a) (by omega) (by omega), hF]; exact rng_of (by omega) (by omega)
          · rw [e1, e403, eB (i + a) (by omega) (by omega), hF] at h
            exact hgo be (by omega)
          · rw [e1, e403, eB (i + a) (by omega) (by omega), hF] at h ⊢
            exact hgo _ (by omega)
        refine bk_X8_lays_108 hX hE u hgu x1 P N A k ((24 * P) + k) i be su a ⟨rng_of (by omega) (by omega), rA, fun h => by omega, fun _ => ⟨rng_of (by omega) (by omega), fun h => hmid su ?_, fun h => ⟨by omega, by omega, ?_, ?_, ?_⟩⟩⟩
        · rw [hsu, show a - 1 = -1 by omega, show a = 0 by omega]; rfl
        · rw [e406]; exact hr.2.2 _ (by omega) (by omega)
        · rw [e402]; exact hpk.1
        · rw [e1, e406, e402]
          refine hmid _ ?_
          have h1 := gsum_s (fun q => grc (s.1 400 7) (mRdF s x1 (i + q)) (mPtF s P k)) (n := a - 1) (by omega)
          rw [show a - 1 + 1 = a by omega] at h1
          rw [h1, hsu]
          unfold mRdF mPtF
          rw [show i + a - 1 = i + (a - 1) by omega]
      · intro ⟨be, su⟩ ⟨ha0, hsu, hbe⟩
        dsimp only at hsu hbe ⊢
        rcases hbe with ⟨h0, _⟩ | ⟨_, m, hm, hbm⟩
        · omega
        rw [show A - i + 1 - 1 = A - i by omega] at hm
        have hmb : 0 ≤ m ∧ m ≤ 3000000 := by
          obtain ⟨⟨j, j0, j1, hj⟩, hle⟩ := hm
          have h1 := hFb j j0 (by omega)
          have h2 := hle (A - i) (by omega) (by omega)
          have h3 := hFb (A - i) (by omega) (by omega)
          dsimp only at hj h2
          rw [show i + (A - i) = A by omega] at h2
          have := hrow1.2
          omega
        have hbm' : be = m := by omega
        refine bk_X8_lays_108 hX hE u hgu x1 P N A k ((24 * P) + k) i be su _ ⟨rng_of (by omega) (by omega), rA, fun _ => ⟨by omega, rng_of (by omega) (by omega), next2 _ ⟨by omega, gRg_A hgu (rng_of (by omega) (by omega)), hou.put _ _, fun x hx => ?_, fun j j0 j1 => ?_⟩⟩, fun h => by omega⟩
        · rw [gpA_ni (by omega)]; exact hux x hx
        · by_cases e : j = i
          · subst e; rw [gpA_eq, hbm']; exact hm
          · rw [gpA_ni (by omega)]; exact hcells j j0 (by omega)
    · intro u ⟨_, hgu, hou, hux, hcells⟩
      refine bk_X8_lays_91 hX hE u hgu x1 P N A k ((24 * P) + k) _ ⟨rng_of (by omega) (by omega), rA, fun _ => ?_, fun h => by omega⟩
      refine next u ⟨by omega, hgu, hou, fun i i0 i1 => ?_, fun q i q0 q1 i0 i1 => ?_, fun q q0 q1 => ?_⟩
      · rw [hux _ (by omega)]; exact hr1 i i0 i1
      · by_cases e : q = k
        · subst e
          refine (hcells i i0 (by omega)).congr (fun a a0 a1 => ?_)
          rw [hux _ (by omega)]
        · rw [hux _ (by omega)]
          refine (hr2 q i (by omega) q1 i0 i1).congr (fun a a0 a1 => ?_)
          rw [hux _ (by omega)]
      · by_cases e : q = k
        · subst e
          have hbd : ∀ i : Int, 0 ≤ i → i ≤ A → (0 ≤ u.2 412 ((121 * q) + i) ∧ u.2 412 ((121 * q) + i) ≤ 1000000000) := by
            intro i i0 i1
            obtain ⟨⟨j, j1, j2, j3⟩, hle⟩ := hcells i i0 (by omega)
            have hc := gCst_bd (M := mM s) (rd := mRdF s x1) (pt := mPtF s P) (bt := mBtF s P) (k := q) (i := i) (t := j) m0 m1 m2 m3 (by omega) hpk.2
            have hB := hrow1.1 (i + j) (by omega) (by omega)
            have hl := hle (A - i) (by omega) (by omega)
            dsimp only at j3 hl
            have hc2 := gCst_bd (M := mM s) (rd := mRdF s x1) (pt := mPtF s P) (bt := mBtF s P) (k := q) (i := i) (t := A - i) m0 m1 m2 m3 (by omega) hpk.2
            rw [show i + (A - i) = A by omega] at hl
            have := hrow1.2
            omega
          refine ⟨hbd, ?_⟩
          obtain ⟨-, hle⟩ := hcells A (by omega) (by omega)
          have hl := hle 0 (by omega) (by omega)
          dsimp only at hl
          have h0 : gCst (mM s) (mRdF s x1) (mPtF s P) (mBtF s P) q A 0 ≤ 74000 := by
            have := gsc_0 (b := mBtF s P q) (tempo := mM s 0) (stretch := mM s 2) (lack := mM s 3) m0 m2 m3 hpk.2
            unfold gCst
            rw [gsum_0]
            omega
          rw [Int.add_zero] at hl
          have := hrow1.2
          omega
        · refine ⟨fun i i0 i1 => ?_, ?_⟩
          · rw [hux _ (by omega)]; exact (hr3 q (by omega) q1).1 i i0 i1
          · rw [hux _ (by omega)]; exact (hr3 q (by omega) q1).2
  · intro t ⟨hkn, hg, ho, hr1, hr2, hr3⟩
    have e1 : t.1 = s.1 := ho.1
    have eM : mM t = mM s := by funext j; unfold mM; rw [e1]
    have eR : mRdF t x1 = mRdF s x1 := by funext i; unfold mRdF; rw [ho.2 406 (by decide)]
    have eP : mPtF t P = mPtF s P := by funext i; unfold mPtF; rw [ho.2 402 (by decide)]
    have eB : mBtF t P = mBtF s P := by funext i; unfold mBtF; rw [ho.2 403 (by decide)]
    have hDP : gDP (mM s) (mRdF s x1) (mPtF s P) (mBtF s P) N A (mB t) := ⟨hr1, fun k i k0 k1 i0 i1 => hr2 k i (by omega) k1 i0 i1⟩
    refine bk_X8_lays_74 hX hE t hg x1 P N A (-1) ⟨rng_of (by omega) (by omega), fun _ => ⟨by unfold mMs; rw [e1]; exact ⟨m0, m1, m2, m3, m4⟩, p1, hPb, hNb, hAb, ?_, ?_, fun k i k0 k1 i0 i1 => (hr3 k (by omega) k1).1 i i0 i1, fun u hu => ⟨fun z => absurd z hn0, fun _ => ?_⟩⟩, fun h => by omega⟩
    · unfold mPR
      rw [ho.2 402 (by decide), ho.2 403 (by decide), ho.2 406 (by decide)]
      exact ⟨hp.2, hr.2.2⟩
    · unfold mDP; rw [eM, eR, eP, eB]; exact hDP
    obtain ⟨⟨hu1, hu2, pos, htk, hnote⟩, -⟩ := hu
    rw [eM, eR, eP, eB] at htk
    rw [eR, eP] at hnote
    have eu : ∀ q : Int, ¬ (412 ≤ q ∧ q ≤ 416) → u.2 q = s.2 q := fun q hq => (hu2 q (by omega)).trans (ho.2 q (by omega))
    have fM : mM u = mM s := by funext j; unfold mM; rw [hu1, e1]
    have fR : mRdF u x1 = mRdF s x1 := by funext i; unfold mRdF; rw [eu 406 (by decide)]
    have f404 : u.2 404 x1 = P := by rw [eu 404 (by decide)]; exact hP
    have f401 : u.2 401 P = N := by rw [eu 401 (by decide)]; exact hN
    have f405 : u.2 405 x1 = A := by rw [eu 405 (by decide)]; exact hA
    have fP : mPtF u P = mPtF s P := by funext i; unfold mPtF; rw [eu 402 (by decide)]
    have fB : mBtF u P = mBtF s P := by funext i; unfold mBtF; rw [eu 403 (by decide)]
    have h412 : u.2 412 = t.2 412 := hu2 412 (by decide)
    refine ⟨⟨hu1.trans e1, eu⟩, ⟨mB t, pos, ?_, ?_, ?_, fun k k0 k1 => ?_⟩, ?_⟩
    · rw [f404, f401, f405, fM, fR, fP, fB]; exact hDP
    · rw [f404, f401, f405, fM, fR, fP, fB]; exact htk
    · rw [h412]; rfl
    · rw [f404, f401] at k1
      rw [f404, fR, fP]
      exact hnote k k0 k1
    · rw [h412]
      have := (hr3 0 (by omega) (by omega)).1 0 (by omega) (by omega)
      exact this
  · have hq : q = N := by omega
    subst hq
    refine ⟨fun i i0 i1 => ?_, ?_⟩
    · rw [hz i i0 (by omega)]; split <;> omega
    · rw [hz _ hAb.1 (by omega), if_pos rfl]; omega

