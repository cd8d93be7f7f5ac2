theorem fl_X6_9 : gFL RX6 9 6 0 := ⟨RX6, TX6, 8, tyX6, rfl, by decide, inG_X6, (gm_1 193 rfl rfl), tyX6_ok, nmX6, fun h => absurd h (by decide)⟩
theorem fl_X6_15 : gFL RX6 15 6 1 := ⟨RX6, TX6, 8, tyX6, rfl, by decide, inG_X6, (gm_1 195 rfl rfl), tyX6_ok, nmX6, fun _ => rfl⟩
theorem fl_X6_19 : gFL RX6 19 6 2 := ⟨RX6, TX6, 8, tyX6, rfl, by decide, inG_X6, (gm_1 197 rfl rfl), tyX6_ok, nmX6, fun _ => rfl⟩
theorem fl_X6_25 : gFL RX6 25 6 4 := ⟨RX6, TX6, 8, tyX6, rfl, by decide, inG_X6, (gm_1 201 rfl rfl), tyX6_ok, nmX6, fun h => absurd h (by decide)⟩
theorem fl_X6_28 : gFL RX6 28 6 5 := ⟨RX6, TX6, 8, tyX6, rfl, by decide, inG_X6, (gm_1 202 rfl rfl), tyX6_ok, nmX6, fun h => absurd h (by decide)⟩
theorem fl_X6_31 : gFL RX6 31 6 6 := ⟨RX6, TX6, 8, tyX6, rfl, by decide, inG_X6, (gm_1 203 rfl rfl), tyX6_ok, nmX6, fun h => absurd h (by decide)⟩
theorem fl_X6_34 : gFL RX6 34 6 7 := ⟨RX6, TX6, 8, tyX6, rfl, by decide, inG_X6, (gm_1 204 rfl rfl), tyX6_ok, nmX6, fun h => absurd h (by decide)⟩
theorem cv_X6_45 : gCV RX6 45 yX6_standsFrom cX6_standsFrom 5 (some .boolean) 3 6 := ⟨TX6, 8, rfl, (gm_3 15 rfl rfl), (gm_3 17 rfl rfl), (gm_s 15 rfl rfl), (gm_1 8 rfl rfl), (gm_3 18 rfl rfl), ⟨by decide, by decide, by decide +kernel⟩, by decide⟩
theorem cv_X6_49 : gCS RX6 49 yJ6_bitCount_0f7a4 cJ6_bitCount_0f7a4 1 (some .int) 1 := ⟨(gm_3 11 rfl rfl), (gm_2 130 rfl rfl), (gm_1 11 rfl rfl), (gm_2 131 rfl rfl), ⟨by decide, by decide, by decide +kernel⟩, by decide⟩
theorem cv_X6_55 : gCS RX6 55 yJ9_max_7cf53 cJ9_max_7cf53 2 (some .int) 2 := ⟨(gm_3 12 rfl rfl), (gm_3 13 rfl rfl), (gm_1 10 rfl rfl), (gm_3 14 rfl rfl), ⟨by decide, by decide, by decide +kernel⟩, by decide⟩
theorem cv_X6_61 : gCV RX6 61 yX5_findSingers cX5_findSingers 5 (some .int) 2 5 := ⟨TX5, 5, rfl, (gm_3 6 rfl rfl), (gm_2 210 rfl rfl), (gm_2 211 rfl rfl), (gm_1 7 rfl rfl), (gm_2 212 rfl rfl), ⟨by decide, by decide, by decide +kernel⟩, by decide⟩
set_option maxRecDepth 100000 in
set_option maxHeartbeats 4000000 in
theorem bk_X6_addPerformance_0 {X : gX} {G : gG} (hX : gOk X G cX6_addPerformance 2 RX6 (some .int) 1) {Q : Int → gS → Prop} (hE : gEnd X G (gPi (fun v s' => Q v s' ∧ gRg s'))) (s : gS) (hs : gRg s) (x1 : Int)  (h : (0 ≤ (s.1 7 1) ∧ (s.1 7 1) < 12) ∧ (rng x1) ∧ (rng ((s.1 7 1) + 1)) ∧ Q (((s.1 7 1) + 1) - 1) (gpI (gpA s 24 (s.1 7 1) x1) 7 1 ((s.1 7 1) + 1))) : gWL X G s 0 [(0, gR G 7), (1, vi x1)] [] := by
  refine g_aload_n hX dX6_addPerformance_0 0 rfl ?_
  refine g_getR hX sh_7 4 rfl fl_X6_25 dX6_addPerformance_1 ?_
  refine g_aload_n hX dX6_addPerformance_4 0 rfl ?_
  refine g_getI hX sh_7 1 rfl fl_X6_15 dX6_addPerformance_5 ?_
  refine g_iload_n hX dX6_addPerformance_8 1 rfl ?_
  obtain ⟨h1, h⟩ := h
  obtain ⟨h2, h⟩ := h
  refine g_iast hX sh_24 h1 (by decide) dX6_addPerformance_9 ?_
  refine g_aload_n hX dX6_addPerformance_10 0 rfl ?_
  refine g_dup hX rfl dX6_addPerformance_11 ?_
  refine g_getI hX sh_7 1 rfl fl_X6_15 dX6_addPerformance_12 ?_
  refine g_iconst hX dX6_addPerformance_15 ?_
  refine g_iadd hX dX6_addPerformance_16 ?_
  obtain ⟨h3, h⟩ := h
  refine g_putI hX sh_7 1 rfl fl_X6_15 (fun _ _ _ e => by cases e; rfl) dX6_addPerformance_17 ?_
  refine g_aload_n hX dX6_addPerformance_20 0 rfl ?_
  refine g_getI hX sh_7 1 rfl fl_X6_15 dX6_addPerformance_21 ?_
  refine g_top gpI_eq ?_
  refine g_iconst hX dX6_addPerformance_24 ?_
  refine g_isub hX dX6_addPerformance_25 ?_
  exact g_iret hX hE dX6_addPerformance_26 ⟨h, (gRg_I (gRg_A hs h2) h3)⟩
set_option maxRecDepth 100000 in
set_option maxHeartbeats 4000000 in
theorem bk_X6_findClashes_0 {X : gX} {G : gG} (hX : gOk X G cX6_findClashes 5 RX6 none 3) {Q : gS → Prop} (hE : gEnd X G (gPv (fun s' => Q s' ∧ gRg s'))) (s : gS) (hs : gRg s) (x2 : Int)  (h : gWL X G s 2 [(0, gR G 7), (1, gR G 6), (2, vi x2), (3, vi 0)] []) : gWL X G s 0 [(0, gR G 7), (1, gR G 6), (2, vi x2)] [] := by
  refine g_iconst hX dX6_findClashes_0 ?_
  refine g_istore_n (loc' := [(3, vi 0), (0, gR G 7), (1, gR G 6), (2, vi x2)]) hX dX6_findClashes_1 (by decide) rfl ?_
  exact g_sub [1, 2, 3, 0] rfl h
set_option maxRecDepth 100000 in
set_option maxHeartbeats 4000000 in
theorem bk_X6_findClashes_2 {X : gX} {G : gG} (hX : gOk X G cX6_findClashes 5 RX6 none 3) {Q : gS → Prop} (hE : gEnd X G (gPv (fun s' => Q s' ∧ gRg s'))) (s : gS) (hs : gRg s) (x2 : Int) (x3 : Int)  (h : (rng x3) ∧ (((s.1 7 1) ≤ x3 → Q s) ∧ (x3 < (s.1 7 1) → (0 ≤ x3 ∧ x3 < 12) ∧ (rng x2) ∧ (0 ≤ (s.1 6 4) ∧ (s.1 6 4) ≤ 60) ∧ (rng (gsing s.2 19 20 21 22 (s.2 24 x3) x2 (s.1 6 4))) ∧ gWL X G (gpA (gpA (gpA s 25 x3 (gsing s.2 19 20 21 22 (s.2 24 x3) x2 (s.1 6 4))) 26 x3 0) 27 x3 0) 44 [(0, gR G 7), (1, gR G 6), (2, vi x2), (3, vi x3), (4, vi 0)] []))) : gWL X G s 2 [(0, gR G 7), (1, gR G 6), (2, vi x2), (3, vi x3)] [] := by
  refine g_iload_n hX dX6_findClashes_2 3 rfl ?_
  refine g_aload_n hX dX6_findClashes_3 0 rfl ?_
  refine g_getI hX sh_7 1 rfl fl_X6_15 dX6_findClashes_4 ?_
  obtain ⟨h1, h⟩ := h
  refine g_icge (tgt := 121) hX h1 (hs.1 _ _) dX6_findClashes_7 (by decide) (fun c2 => ?_) (fun c2 => ?_)
  · replace h := h.1 c2
    exact g_vret hX hE dX6_findClashes_121 ⟨h, hs⟩
  · replace h := h.2 (Int.not_le.mp c2)
    refine g_aload_n hX dX6_findClashes_10 0 rfl ?_
    refine g_getR hX sh_7 5 rfl fl_X6_28 dX6_findClashes_11 ?_
    refine g_iload_n hX dX6_findClashes_14 3 rfl ?_
    refine g_aload_n hX dX6_findClashes_15 1 rfl ?_
    refine g_aload_n hX dX6_findClashes_16 0 rfl ?_
    refine g_getR hX sh_7 4 rfl fl_X6_25 dX6_findClashes_17 ?_
    refine g_iload_n hX dX6_findClashes_20 3 rfl ?_
    obtain ⟨h3, h⟩ := h
    refine g_iald hX sh_24 h3 (by decide) dX6_findClashes_21 ?_
    refine g_iload_n hX dX6_findClashes_22 2 rfl ?_
    obtain ⟨h4, h⟩ := h
    obtain ⟨h5, h⟩ := h
    refine g_cVf (As := [vi (s.2 24 x3), vi x2]) hX (fun l => c_X5_findSingers l hX.inj s (s.2 24 x3) x2 hs (hs.2 _ _) h4 h5) sh_6 cv_X6_61 (by decide) rfl (Nat.le_of_ble_eq_true rfl) dX6_findClashes_23 rfl (fun g6 => ?_)
    obtain ⟨h7, h⟩ := h
    refine g_iast hX sh_25 h3 (by decide) dX6_findClashes_26 ?_
    refine g_aload_n hX dX6_findClashes_27 0 rfl ?_
    refine g_getR hX sh_7 6 rfl fl_X6_31 dX6_findClashes_28 ?_
    refine g_iload_n hX dX6_findClashes_31 3 rfl ?_
    refine g_iconst hX dX6_findClashes_32 ?_
    refine g_iast hX sh_26 h3 (by decide) dX6_findClashes_33 ?_
    refine g_aload_n hX dX6_findClashes_34 0 rfl ?_
    refine g_getR hX sh_7 7 rfl fl_X6_34 dX6_findClashes_35 ?_
    refine g_iload_n hX dX6_findClashes_38 3 rfl ?_
    refine g_iconst hX dX6_findClashes_39 ?_
    refine g_iast hX sh_27 h3 (by decide) dX6_findClashes_40 ?_
    refine g_iconst hX dX6_findClashes_41 ?_
    refine g_istore (loc' := [(4, vi 0), (0, gR G 7), (1, gR G 6), (2, vi x2), (3, vi x3)]) hX dX6_findClashes_42 (by decide) rfl ?_
    exact g_sub [1, 2, 3, 4, 0] rfl h
set_option maxRecDepth 100000 in
set_option maxHeartbeats 4000000 in
theorem bk_X6_findClashes_44 {X : gX} {G : gG} (hX : gOk X G cX6_findClashes 5 RX6 none 3) {Q : gS → Prop} (hE : gEnd X G (gPv (fun s' => Q s' ∧ gRg s'))) (s : gS) (hs : gRg s) (x2 : Int) (x3 : Int) (x4 : Int)  (h : (rng x4) ∧ (rng x3) ∧ ((x3 ≤ x4 → gWL X G s 2 [(0, gR G 7), (1, gR G 6), (2, vi x2), (3, vi (x3 + 1))] []) ∧ (x4 < x3 → (0 ≤ x4 ∧ x4 < 12) ∧ (0 ≤ x3 ∧ x3 < 12) ∧ (((s.2 24 x4) = (s.2 24 x3) → gWL X G (gpA (gpA s 26 x3 (gor (s.2 26 x3) (gshl 1 x4))) 26 x4 (gor ((gpA s 26 x3 (gor (s.2 26 x3) (gshl 1 x4))).2 26 x4) (gshl 1 x3))) 44 [(0, gR G 7), (1, gR G 6), (2, vi x2), (3, vi x3), (4, vi (x4 + 1))] []) ∧ (¬ ((s.2 24 x4) = (s.2 24 x3)) → (((gand (s.2 25 x4) (s.2 25 x3)) = 0 → gWL X G s 44 [(0, gR G 7), (1, gR G 6), (2, vi x2), (3, vi x3), (4, vi (x4 + 1))] []) ∧ (¬ ((gand (s.2 25 x4) (s.2 25 x3)) = 0) → gWL X G (gpA (gpA s 26 x3 (gor (s.2 26 x3) (gshl 1 x4))) 26 x4 (gor ((gpA s 26 x3 (gor (s.2 26 x3) (gshl 1 x4))).2 26 x4) (gshl 1 x3))) 44 [(0, gR G 7), (1, gR G 6), (2, vi x2), (3, vi x3), (4, vi (x4 + 1))] []))))))) : gWL X G s 44 [(0, gR G 7), (1, gR G 6), (2, vi x2), (3, vi x3), (4, vi x4)] [] := by
  refine g_iload hX dX6_findClashes_44 4 rfl ?_
  refine g_iload_n hX dX6_findClashes_46 3 rfl ?_
  obtain ⟨h1, h⟩ := h
  obtain ⟨h2, h⟩ := h
  refine g_icge (tgt := 115) hX h1 h2 dX6_findClashes_47 (by decide) (fun c3 => ?_) (fun c3 => ?_)
  · replace h := h.1 c3
    refine g_iinc (loc' := [(3, vi (x3 + 1)), (0, gR G 7), (1, gR G 6), (2, vi x2), (4, vi x4)]) hX dX6_findClashes_115 3 rfl (by decide) rfl ?_
    refine g_goto (tgt := 2) hX dX6_findClashes_118 (by decide) ?_
    exact g_sub [1, 2, 3, 0] rfl h
  · replace h := h.2 (Int.not_le.mp c3)
    refine g_aload_n hX dX6_findClashes_50 0 rfl ?_
    refine g_getR hX sh_7 4 rfl fl_X6_25 dX6_findClashes_51 ?_
    refine g_iload hX dX6_findClashes_54 4 rfl ?_
    obtain ⟨h4, h⟩ := h
    refine g_iald hX sh_24 h4 (by decide) dX6_findClashes_56 ?_
    refine g_aload_n hX dX6_findClashes_57 0 rfl ?_
    refine g_getR hX sh_7 4 rfl fl_X6_25 dX6_findClashes_58 ?_
    refine g_iload_n hX dX6_findClashes_61 3 rfl ?_
    obtain ⟨h5, h⟩ := h
    refine g_iald hX sh_24 h5 (by decide) dX6_findClashes_62 ?_
    refine g_iceq (tgt := 83) hX (hs.2 _ _) (hs.2 _ _) dX6_findClashes_63 (by decide) (fun c6 => ?_) (fun c6 => ?_)
    · replace h := h.1 c6
      refine g_aload_n hX dX6_findClashes_83 0 rfl ?_
      refine g_getR hX sh_7 6 rfl fl_X6_31 dX6_findClashes_84 ?_
      refine g_iload_n hX dX6_findClashes_87 3 rfl ?_
      refine g_dup2 hX rfl rfl dX6_findClashes_88 ?_
      refine g_iald hX sh_26 h5 (by decide) dX6_findClashes_89 ?_
      refine g_iconst hX dX6_findClashes_90 ?_
      refine g_iload hX dX6_findClashes_91 4 rfl ?_
      refine g_ishl hX dX6_findClashes_93 ?_
      refine g_ior hX dX6_findClashes_94 ?_
      refine g_iast hX sh_26 h5 (by decide) dX6_findClashes_95 ?_
      refine g_aload_n hX dX6_findClashes_96 0 rfl ?_
      refine g_getR hX sh_7 6 rfl fl_X6_31 dX6_findClashes_97 ?_
      refine g_iload hX dX6_findClashes_100 4 rfl ?_
      refine g_dup2 hX rfl rfl dX6_findClashes_102 ?_
      refine g_iald hX sh_26 h4 (by decide) dX6_findClashes_103 ?_
      refine g_iconst hX dX6_findClashes_104 ?_
      refine g_iload_n hX dX6_findClashes_105 3 rfl ?_
      refine g_ishl hX dX6_findClashes_106 ?_
      refine g_ior hX dX6_findClashes_107 ?_
      refine g_iast hX sh_26 h4 (by decide) dX6_findClashes_108 ?_
      refine g_iinc (loc' := [(4, vi (x4 + 1)), (0, gR G 7), (1, gR G 6), (2, vi x2), (3, vi x3)]) hX dX6_findClashes_109 4 rfl (by decide) rfl ?_
      refine g_goto (tgt := 44) hX dX6_findClashes_112 (by decide) ?_
      exact g_sub [1, 2, 3, 4, 0] rfl h
    · replace h := h.2 c6
      refine g_aload_n hX dX6_findClashes_66 0 rfl ?_
      refine g_getR hX sh_7 5 rfl fl_X6_28 dX6_findClashes_67 ?_
      refine g_iload hX dX6_findClashes_70 4 rfl ?_
      refine g_iald hX sh_25 h4 (by decide) dX6_findClashes_72 ?_
      refine g_aload_n hX dX6_findClashes_73 0 rfl ?_
      refine g_getR hX sh_7 5 rfl fl_X6_28 dX6_findClashes_74 ?_
      refine g_iload_n hX dX6_findClashes_77 3 rfl ?_
      refine g_iald hX sh_25 h5 (by decide) dX6_findClashes_78 ?_
      refine g_iand hX dX6_findClashes_79 ?_
      refine g_ifeq (tgt := 109) hX (rng_i _) dX6_findClashes_80 (by decide) (fun c7 => ?_) (fun c7 => ?_)
      · replace h := h.1 c7
        refine g_iinc (loc' := [(4, vi (x4 + 1)), (0, gR G 7), (1, gR G 6), (2, vi x2), (3, vi x3)]) hX dX6_findClashes_109 4 rfl (by decide) rfl ?_
        refine g_goto (tgt := 44) hX dX6_findClashes_112 (by decide) ?_
        exact g_sub [1, 2, 3, 4, 0] rfl h
      · replace h := h.2 c7
        refine g_aload_n hX dX6_findClashes_83 0 rfl ?_
        refine g_getR hX sh_7 6 rfl fl_X6_31 dX6_findClashes_84 ?_
        refine g_iload_n hX dX6_findClashes_87 3 rfl ?_
        refine g_dup2 hX rfl rfl dX6_findClashes_88 ?_
        refine g_iald hX sh_26 h5 (by decide) dX6_findClashes_89 ?_
        refine g_iconst hX dX6_findClashes_90 ?_
        refine g_iload hX dX6_findClashes_91 4 rfl ?_
        refine g_ishl hX dX6_findClashes_93 ?_
        refine g_ior hX dX6_findClashes_94 ?_
        refine g_iast hX sh_26 h5 (by decide) dX6_findClashes_95 ?_
        refine g_aload_n hX dX6_findClashes_96 0 rfl ?_
        refine g_getR hX sh_7 6 rfl fl_X6_31 dX6_findClashes_97 ?_
        refine g_iload hX dX6_findClashes_100 4 rfl ?_
        refine g_dup2 hX rfl rfl dX6_findClashes_102 ?_
        refine g_iald hX sh_26 h4 (by decide) dX6_findClashes_103 ?_
        refine g_iconst hX dX6_findClashes_104 ?_
        refine g_iload_n hX dX6_findClashes_105 3 rfl ?_
        refine g_ishl hX dX6_findClashes_106 ?_
        refine g_ior hX dX6_findClashes_107 ?_
        refine g_iast hX sh_26 h4 (by decide) dX6_findClashes_108 ?_
        refine g_iinc (loc' := [(4, vi (x4 + 1)), (0, gR G 7), (1, gR G 6), (2, vi x2), (3, vi x3)]) hX dX6_findClashes_109 4 rfl (by decide) rfl ?_
        refine g_goto (tgt := 44) hX dX6_findClashes_112 (by decide) ?_
        exact g_sub [1, 2, 3, 4, 0] rfl h
set_option maxRecDepth 100000 in
set_option maxHeartbeats 4000000 in
theorem bk_X6_countNeeded_0 {X : gX} {G : gG} (hX : gOk X G cX6_countNeeded 5 RX6 (some .int) 2) {Q : Int → gS → Prop} (hE : gEnd X G (gPi (fun v s' => Q v s' ∧ gRg s'))) (s : gS) (hs : gRg s)   (h : gWL X G s 4 [(0, gR G 7), (1, vi 0), (2, vi 0)] []) : gWL X G s 0 [(0, gR G 7)] [] := by
  refine g_iconst hX dX6_countNeeded_0 ?_
  refine g_istore_n (loc' := [(1, vi 0), (0, gR G 7)]) hX dX6_countNeeded_1 (by decide) rfl ?_
  refine g_iconst hX dX6_countNeeded_2 ?_
  refine g_istore_n (loc' := [(2, vi 0), (1, vi 0), (0, gR G 7)]) hX dX6_countNeeded_3 (by decide) rfl ?_
  exact g_sub [2, 1, 0] rfl h
set_option maxRecDepth 100000 in
set_option maxHeartbeats 4000000 in
theorem bk_X6_countNeeded_4 {X : gX} {G : gG} (hX : gOk X G cX6_countNeeded 5 RX6 (some .int) 2) {Q : Int → gS → Prop} (hE : gEnd X G (gPi (fun v s' => Q v s' ∧ gRg s'))) (s : gS) (hs : gRg s) (x1 : Int) (x2 : Int)  (h : (rng x2) ∧ (((s.1 7 1) ≤ x2 → Q x1 s) ∧ (x2 < (s.1 7 1) → gWL X G s 19 [(0, gR G 7), (1, vi x1), (2, vi x2), (3, vi (gshl 1 x2)), (4, vi 0)] []))) : gWL X G s 4 [(0, gR G 7), (1, vi x1), (2, vi x2)] [] := by
  refine g_iload_n hX dX6_countNeeded_4 2 rfl ?_
  refine g_aload_n hX dX6_countNeeded_5 0 rfl ?_
  refine g_getI hX sh_7 1 rfl fl_X6_15 dX6_countNeeded_6 ?_
  obtain ⟨h1, h⟩ := h
  refine g_icge (tgt := 70) hX h1 (hs.1 _ _) dX6_countNeeded_9 (by decide) (fun c2 => ?_) (fun c2 => ?_)
  · replace h := h.1 c2
    refine g_iload_n hX dX6_countNeeded_70 1 rfl ?_
    exact g_iret hX hE dX6_countNeeded_71 ⟨h, hs⟩
  · replace h := h.2 (Int.not_le.mp c2)
    refine g_iconst hX dX6_countNeeded_12 ?_
    refine g_iload_n hX dX6_countNeeded_13 2 rfl ?_
    refine g_ishl hX dX6_countNeeded_14 ?_
    refine g_istore_n (loc' := [(3, vi (gshl 1 x2)), (0, gR G 7), (1, vi x1), (2, vi x2)]) hX dX6_countNeeded_15 (by decide) rfl ?_
    refine g_iconst hX dX6_countNeeded_16 ?_
    refine g_istore (loc' := [(4, vi 0), (3, vi (gshl 1 x2)), (0, gR G 7), (1, vi x1), (2, vi x2)]) hX dX6_countNeeded_17 (by decide) rfl ?_
    exact g_sub [2, 3, 4, 1, 0] rfl h
set_option maxRecDepth 100000 in
set_option maxHeartbeats 4000000 in
theorem bk_X6_countNeeded_19 {X : gX} {G : gG} (hX : gOk X G cX6_countNeeded 5 RX6 (some .int) 2) {Q : Int → gS → Prop} (hE : gEnd X G (gPi (fun v s' => Q v s' ∧ gRg s'))) (s : gS) (hs : gRg s) (x1 : Int) (x2 : Int) (x3 : Int) (x4 : Int)  (h : (rng x4) ∧ (((s.1 7 1) ≤ x4 → (rng x1) ∧ (rng (gbits x3)) ∧ gWL X G s 4 [(0, gR G 7), (1, vi (max x1 (gbits x3))), (2, vi (x2 + 1))] []) ∧ (x4 < (s.1 7 1) → (0 ≤ x4 ∧ x4 < 12) ∧ ((¬ (gand x3 (gxor (s.2 26 x4) (-1))) = 0 → gWL X G s 19 [(0, gR G 7), (1, vi x1), (2, vi x2), (3, vi x3), (4, vi (x4 + 1))] []) ∧ ((gand x3 (gxor (s.2 26 x4) (-1))) = 0 → gWL X G s 19 [(0, gR G 7), (1, vi x1), (2, vi x2), (3, vi (gor x3 (gshl 1 x4))), (4, vi (x4 + 1))] []))))) : gWL X G s 19 [(0, gR G 7), (1, vi x1), (2, vi x2), (3, vi x3), (4, vi x4)] [] := by
  refine g_iload hX dX6_countNeeded_19 4 rfl ?_
  refine g_aload_n hX dX6_countNeeded_21 0 rfl ?_
  refine g_getI hX sh_7 1 rfl fl_X6_15 dX6_countNeeded_22 ?_
  obtain ⟨h1, h⟩ := h
  refine g_icge (tgt := 55) hX h1 (hs.1 _ _) dX6_countNeeded_25 (by decide) (fun c2 => ?_) (fun c2 => ?_)
  · replace h := h.1 c2
    refine g_iload_n hX dX6_countNeeded_55 1 rfl ?_
    refine g_iload_n hX dX6_countNeeded_56 3 rfl ?_
    refine g_cSf (As := [vi x3]) hX (fun l => c_J6_bitCount_0f7a4 l hX.inj s x3 hs) cv_X6_49 (by decide) rfl (Nat.le_of_ble_eq_true rfl) dX6_countNeeded_57 rfl (fun g3 => ?_)
    obtain ⟨h4, h⟩ := h
    obtain ⟨h5, h⟩ := h
    refine g_cSf (As := [vi x1, vi (gbits x3)]) hX (fun l => c_J9_max_7cf53 l hX.inj s x1 (gbits x3) hs h4 h5) cv_X6_55 (by decide) rfl (Nat.le_of_ble_eq_true rfl) dX6_countNeeded_60 rfl (fun g6 => ?_)
    refine g_istore_n (loc' := [(1, vi (max x1 (gbits x3))), (0, gR G 7), (2, vi x2), (3, vi x3), (4, vi x4)]) hX dX6_countNeeded_63 (by decide) rfl ?_
    refine g_iinc (loc' := [(2, vi (x2 + 1)), (1, vi (max x1 (gbits x3))), (0, gR G 7), (3, vi x3), (4, vi x4)]) hX dX6_countNeeded_64 2 rfl (by decide) rfl ?_
    refine g_goto (tgt := 4) hX dX6_countNeeded_67 (by decide) ?_
    exact g_sub [2, 1, 0] rfl h
  · replace h := h.2 (Int.not_le.mp c2)
    refine g_iload_n hX dX6_countNeeded_28 3 rfl ?_
    refine g_aload_n hX dX6_countNeeded_29 0 rfl ?_
    refine g_getR hX sh_7 6 rfl fl_X6_31 dX6_countNeeded_30 ?_
    refine g_iload hX dX6_countNeeded_33 4 rfl ?_
    obtain ⟨h7, h⟩ := h
    refine g_iald hX sh_26 h7 (by decide) dX6_countNeeded_35 ?_
    refine g_iconst hX dX6_countNeeded_36 ?_
    refine g_ixor hX dX6_countNeeded_37 ?_
    refine g_iand hX dX6_countNeeded_38 ?_
    refine g_ifne (tgt := 49) hX (rng_i _) dX6_countNeeded_39 (by decide) (fun c8 => ?_) (fun c8 => ?_)
    · replace h := h.1 c8
      refine g_iinc (loc' := [(4, vi (x4 + 1)), (0, gR G 7), (1, vi x1), (2, vi x2), (3, vi x3)]) hX dX6_countNeeded_49 4 rfl (by decide) rfl ?_
      refine g_goto (tgt := 19) hX dX6_countNeeded_52 (by decide) ?_
      exact g_sub [1, 2, 3, 4, 0] rfl h
    · replace h := h.2 (gnn c8)
      refine g_iload_n hX dX6_countNeeded_42 3 rfl ?_
      refine g_iconst hX dX6_countNeeded_43 ?_
      refine g_iload hX dX6_countNeeded_44 4 rfl ?_
      refine g_ishl hX dX6_countNeeded_46 ?_
      refine g_ior hX dX6_countNeeded_47 ?_
      refine g_istore_n (loc' := [(3, vi (gor x3 (gshl 1 x4))), (0, gR G 7), (1, vi x1), (2, vi x2), (4, vi x4)]) hX dX6_countNeeded_48 (by decide) rfl ?_
      refine g_iinc (loc' := [(4, vi (x4 + 1)), (3, vi (gor x3 (gshl 1 x4))), (0, gR G 7), (1, vi x1), (2, vi x2)]) hX dX6_countNeeded_49 4 rfl (by decide) rfl ?_
      refine g_goto (tgt := 19) hX dX6_countNeeded_52 (by decide) ?_
      exact g_sub [2, 3, 4, 1, 0] rfl h
set_option maxRecDepth 100000 in
set_option maxHeartbeats 4000000 in
theorem bk_X6_standsFrom_0 {X : gX} {G : gG} (d : Nat) (hrec : True) (hX : gOk X G cX6_standsFrom 5 RX6 (some .boolean) (d + 2)) {Q : Int → gS → Prop} (hE : gEnd X G (gPi (fun v s' => Q v s' ∧ gRg s'))) (s : gS) (hs : gRg s) (x1 : Int) (x2 : Int) (x3 : Int)  (h : (rng x1) ∧ ((x1 < (s.1 7 1) → gWL X G s 13 [(0, gR G 7), (1, vi x1), (2, vi x2), (3, vi x3), (4, vi 0)] []) ∧ ((s.1 7 1) ≤ x1 → Q 1 s))) : gWL X G s 0 [(0, gR G 7), (1, vi x1), (2, vi x2), (3, vi x3)] [] := by
  refine g_iload_n hX dX6_standsFrom_0 1 rfl ?_
  refine g_aload_n hX dX6_standsFrom_1 0 rfl ?_
  refine g_getI hX sh_7 1 rfl fl_X6_15 dX6_standsFrom_2 ?_
  obtain ⟨h1, h⟩ := h
  refine g_iclt (tgt := 10) hX h1 (hs.1 _ _) dX6_standsFrom_5 (by decide) (fun c2 => ?_) (fun c2 => ?_)
  · replace h := h.1 c2
    refine g_iconst hX dX6_standsFrom_10 ?_
    refine g_istore (loc' := [(4, vi 0), (0, gR G 7), (1, vi x1), (2, vi x2), (3, vi x3)]) hX dX6_standsFrom_11 (by decide) rfl ?_
    exact g_sub [1, 2, 3, 4, 0] rfl h
  · replace h := h.2 (Int.not_lt.mp c2)
    refine g_iconst hX dX6_standsFrom_8 ?_
    exact g_zret hX hE (Or.inr rfl) dX6_standsFrom_9 ⟨h, hs⟩
set_option maxRecDepth 100000 in
set_option maxHeartbeats 4000000 in
theorem bk_X6_standsFrom_13 {X : gX} {G : gG} (d : Nat) (hrec : True) (hX : gOk X G cX6_standsFrom 5 RX6 (some .boolean) (d + 2)) {Q : Int → gS → Prop} (hE : gEnd X G (gPi (fun v s' => Q v s' ∧ gRg s'))) (s : gS) (hs : gRg s) (x1 : Int) (x2 : Int) (x3 : Int) (x4 : Int)  (h : (rng x4) ∧ (rng x2) ∧ ((x2 < x4 → Q 0 s) ∧ (x4 ≤ x2 → (rng x3) ∧ ((x3 ≤ x4 → Q 0 s) ∧ (x4 < x3 → (0 ≤ x4 ∧ x4 < 12) ∧ (0 ≤ x1 ∧ x1 < 12) ∧ ((¬ (gand (s.2 27 x4) (s.2 26 x1)) = 0 → gWL X G s 13 [(0, gR G 7), (1, vi x1), (2, vi x2), (3, vi x3), (4, vi (x4 + 1))] []) ∧ ((gand (s.2 27 x4) (s.2 26 x1)) = 0 → (rng (gbits (s.2 27 x4))) ∧ (((s.1 7 2) ≤ (gbits (s.2 27 x4)) → gWL X G s 13 [(0, gR G 7), (1, vi x1), (2, vi x2), (3, vi x3), (4, vi (x4 + 1))] []) ∧ ((gbits (s.2 27 x4)) < (s.1 7 2) → (rng (x4 + 1)) ∧ (gSt (gpA (gpA s 27 x4 (gor (s.2 27 x4) (gshl 1 x1))) 23 x1 x4) (x1 + 1) (max x2 (x4 + 1)) x3) ∧ (∀ (v17 : Int) (s15 : gS), ((gStood (gpA (gpA s 27 x4 (gor (s.2 27 x4) (gshl 1 x1))) 23 x1 x4) s15 (x1 + 1) x3 v17) ∧ gRg s15) → (rng v17) ∧ ((v17 = 0 → gWL X G (gpA s15 27 x4 (gxor (s15.2 27 x4) (gshl 1 x1))) 13 [(0, gR G 7), (1, vi x1), (2, vi x2), (3, vi x3), (4, vi (x4 + 1))] []) ∧ (¬ (v17 = 0) → Q 1 s15)))))))))))) : gWL X G s 13 [(0, gR G 7), (1, vi x1), (2, vi x2), (3, vi x3), (4, vi x4)] [] := by
  refine g_iload hX dX6_standsFrom_13 4 rfl ?_
  refine g_iload_n hX dX6_standsFrom_15 2 rfl ?_
  obtain ⟨h1, h⟩ := h
  obtain ⟨h2, h⟩ := h
  refine g_icgt (tgt := 120) hX h1 h2 dX6_standsFrom_16 (by decide) (fun c3 => ?_) (fun c3 => ?_)
  · replace h := h.1 c3
    refine g_iconst hX dX6_standsFrom_120 ?_
    exact g_zret hX hE (Or.inl rfl) dX6_standsFrom_121 ⟨h, hs⟩
  · replace h := h.2 (Int.not_lt.mp c3)
    refine g_iload hX dX6_standsFrom_19 4 rfl ?_
    refine g_iload_n hX dX6_standsFrom_21 3 rfl ?_
    obtain ⟨h4, h⟩ := h
    refine g_icge (tgt := 120) hX h1 h4 dX6_standsFrom_22 (by decide) (fun c5 => ?_) (fun c5 => ?_)
    · replace h := h.1 c5
      refine g_iconst hX dX6_standsFrom_120 ?_
      exact g_zret hX hE (Or.inl rfl) dX6_standsFrom_121 ⟨h, hs⟩
    · replace h := h.2 (Int.not_le.mp c5)
      refine g_aload_n hX dX6_standsFrom_25 0 rfl ?_
      refine g_getR hX sh_7 7 rfl fl_X6_34 dX6_standsFrom_26 ?_
      refine g_iload hX dX6_standsFrom_29 4 rfl ?_
      obtain ⟨h6, h⟩ := h
      refine g_iald hX sh_27 h6 (by decide) dX6_standsFrom_31 ?_
      refine g_aload_n hX dX6_standsFrom_32 0 rfl ?_
      refine g_getR hX sh_7 6 rfl fl_X6_31 dX6_standsFrom_33 ?_
      refine g_iload_n hX dX6_standsFrom_36 1 rfl ?_
      obtain ⟨h7, h⟩ := h
      refine g_iald hX sh_26 h7 (by decide) dX6_standsFrom_37 ?_
      refine g_iand hX dX6_standsFrom_38 ?_
      refine g_ifne (tgt := 114) hX (rng_i _) dX6_standsFrom_39 (by decide) (fun c8 => ?_) (fun c8 => ?_)
      · replace h := h.1 c8
        refine g_iinc (loc' := [(4, vi (x4 + 1)), (0, gR G 7), (1, vi x1), (2, vi x2), (3, vi x3)]) hX dX6_standsFrom_114 4 rfl (by decide) rfl ?_
        refine g_goto (tgt := 13) hX dX6_standsFrom_117 (by decide) ?_
        exact g_sub [1, 2, 3, 4, 0] rfl h
      · replace h := h.2 (gnn c8)
        refine g_aload_n hX dX6_standsFrom_42 0 rfl ?_
        refine g_getR hX sh_7 7 rfl fl_X6_34 dX6_standsFrom_43 ?_
        refine g_iload hX dX6_standsFrom_46 4 rfl ?_
        refine g_iald hX sh_27 h6 (by decide) dX6_standsFrom_48 ?_
        refine g_cSf (As := [vi (s.2 27 x4)]) hX (fun l => c_J6_bitCount_0f7a4 l hX.inj s (s.2 27 x4) hs) cv_X6_49 (by omega) rfl (Nat.le_of_ble_eq_true rfl) dX6_standsFrom_49 rfl (fun g9 => ?_)
        refine g_aload_n hX dX6_standsFrom_52 0 rfl ?_
        refine g_getI hX sh_7 2 rfl fl_X6_19 dX6_standsFrom_53 ?_
        obtain ⟨h10, h⟩ := h
        refine g_icge (tgt := 114) hX h10 (hs.1 _ _) dX6_standsFrom_56 (by decide) (fun c11 => ?_) (fun c11 => ?_)
        · replace h := h.1 c11
          refine g_iinc (loc' := [(4, vi (x4 + 1)), (0, gR G 7), (1, vi x1), (2, vi x2), (3, vi x3)]) hX dX6_standsFrom_114 4 rfl (by decide) rfl ?_
          refine g_goto (tgt := 13) hX dX6_standsFrom_117 (by decide) ?_
          exact g_sub [1, 2, 3, 4, 0] rfl h
        · replace h := h.2 (Int.not_le.mp c11)
          refine g_aload_n hX dX6_standsFrom_59 0 rfl ?_
          refine g_getR hX sh_7 7 rfl fl_X6_34 dX6_standsFrom_60 ?_
          refine g_iload hX dX6_standsFrom_63 4 rfl ?_
          refine g_dup2 hX rfl rfl dX6_standsFrom_65 ?_
          refine g_iald hX sh_27 h6 (by decide) dX6_standsFrom_66 ?_
          refine g_iconst hX dX6_standsFrom_67 ?_
          refine g_iload_n hX dX6_standsFrom_68 1 rfl ?_
          refine g_ishl hX dX6_standsFrom_69 ?_
          refine g_ior hX dX6_standsFrom_70 ?_
          refine g_iast hX sh_27 h6 (by decide) dX6_standsFrom_71 ?_
          refine g_aload_n hX dX6_standsFrom_72 0 rfl ?_
          refine g_getR hX sh_7 0 rfl fl_X6_9 dX6_standsFrom_73 ?_
          refine g_iload_n hX dX6_standsFrom_76 1 rfl ?_
          refine g_iload hX dX6_standsFrom_77 4 rfl ?_
          refine g_iast hX sh_23 h7 (by decide) dX6_standsFrom_79 ?_
          refine g_aload_n hX dX6_standsFrom_80 0 rfl ?_
          refine g_iload_n hX dX6_standsFrom_81 1 rfl ?_
          refine g_iconst hX dX6_standsFrom_82 ?_
          refine g_iadd hX dX6_standsFrom_83 ?_
          refine g_iload_n hX dX6_standsFrom_84 2 rfl ?_
          refine g_iload hX dX6_standsFrom_85 4 rfl ?_
          refine g_iconst hX dX6_standsFrom_87 ?_
          refine g_iadd hX dX6_standsFrom_88 ?_
          obtain ⟨h12, h⟩ := h
          refine g_cSf (As := [vi x2, vi (x4 + 1)]) hX (fun l => c_J9_max_7cf53 l hX.inj (gpA (gpA s 27 x4 (gor (s.2 27 x4) (gshl 1 x1))) 23 x1 x4) x2 (x4 + 1) (gRg_A (gRg_A hs (rng_i _)) h1) h2 h12) cv_X6_55 (by omega) rfl (Nat.le_of_ble_eq_true rfl) dX6_standsFrom_89 rfl (fun g13 => ?_)
          refine g_iload_n hX dX6_standsFrom_92 3 rfl ?_
          obtain ⟨h14, h⟩ := h
          refine g_cVr (As := [vi (x1 + 1), vi (max x2 (x4 + 1)), vi x3]) hX (fun l => hrec l hX.inj (gpA (gpA s 27 x4 (gor (s.2 27 x4) (gshl 1 x1))) 23 x1 x4) (x1 + 1) (max x2 (x4 + 1)) x3 (gRg_A (gRg_A hs (rng_i _)) h1) h14) sh_7 cv_X6_45 (by omega) rfl (Nat.le_of_ble_eq_true rfl) dX6_standsFrom_93 rfl (fun v17 s15 q16 => ?_)
          replace h := h v17 s15 q16
          have rs15 : gRg s15 := q16.2
          obtain ⟨h18, h⟩ := h
          refine g_ifeq (tgt := 101) hX h18 dX6_standsFrom_96 (by decide) (fun c19 => ?_) (fun c19 => ?_)
          · replace h := h.1 c19
            refine g_aload_n hX dX6_standsFrom_101 0 rfl ?_
            refine g_getR hX sh_7 7 rfl fl_X6_34 dX6_standsFrom_102 ?_
            refine g_iload hX dX6_standsFrom_105 4 rfl ?_
            refine g_dup2 hX rfl rfl dX6_standsFrom_107 ?_
            refine g_iald hX sh_27 h6 (by decide) dX6_standsFrom_108 ?_
            refine g_iconst hX dX6_standsFrom_109 ?_
            refine g_iload_n hX dX6_standsFrom_110 1 rfl ?_
            refine g_ishl hX dX6_standsFrom_111 ?_
            refine g_ixor hX dX6_standsFrom_112 ?_
            refine g_iast hX sh_27 h6 (by decide) dX6_standsFrom_113 ?_
            refine g_iinc (loc' := [(4, vi (x4 + 1)), (0, gR G 7), (1, vi x1), (2, vi x2), (3, vi x3)]) hX dX6_standsFrom_114 4 rfl (by decide) rfl ?_
            refine g_goto (tgt := 13) hX dX6_standsFrom_117 (by decide) ?_
            exact g_sub [1, 2, 3, 4, 0] rfl h
          · replace h := h.2 c19
            refine g_iconst hX dX6_standsFrom_99 ?_
            exact g_zret hX hE (Or.inr rfl) dX6_standsFrom_100 ⟨h, rs15⟩

