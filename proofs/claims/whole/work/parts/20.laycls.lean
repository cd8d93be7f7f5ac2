theorem fl_X0_24 : gFL RX0 24 0 4 := ⟨RX0, TX0, 13, tyX0, rfl, by decide, inG_X0, (gm_1 105 rfl rfl), tyX0_ok, nmX0, fun _ => rfl⟩
theorem fl_X0_37 : gFL RX0 37 0 8 := ⟨RX0, TX0, 13, tyX0, rfl, by decide, inG_X0, (gm_1 113 rfl rfl), tyX0_ok, nmX0, fun _ => rfl⟩
theorem fl_X0_42 : gFL RX0 42 0 9 := ⟨RX0, TX0, 13, tyX0, rfl, by decide, inG_X0, (gm_1 115 rfl rfl), tyX0_ok, nmX0, fun h => absurd h (by decide)⟩
theorem fl_X0_45 : gFL RX0 45 0 10 := ⟨RX0, TX0, 13, tyX0, rfl, by decide, inG_X0, (gm_1 116 rfl rfl), tyX0_ok, nmX0, fun h => absurd h (by decide)⟩
theorem fl_X0_48 : gFL RX0 48 0 11 := ⟨RX0, TX0, 13, tyX0, rfl, by decide, inG_X0, (gm_1 117 rfl rfl), tyX0_ok, nmX0, fun h => absurd h (by decide)⟩
theorem fl_X0_51 : gFL RX0 51 0 12 := ⟨RX0, TX0, 13, tyX0, rfl, by decide, inG_X0, (gm_1 118 rfl rfl), tyX0_ok, nmX0, fun h => absurd h (by decide)⟩
theorem fl_X0_57 : gFL RX0 57 4 1 := ⟨RX4, TX4, 3, tyX4, rfl, by decide, inG_X4, (gm_1 52 rfl rfl), tyX4_ok, nmX4, fun _ => rfl⟩
theorem fl_X0_71 : gFL RX0 71 1 2 := ⟨RX1, TX1, 5, tyX1, rfl, by decide, inG_X1, (gm_1 73 rfl rfl), tyX1_ok, nmX1, fun _ => rfl⟩
theorem fl_X0_102 : gFL RX0 102 4 0 := ⟨RX4, TX4, 3, tyX4, rfl, by decide, inG_X4, (gm_1 50 rfl rfl), tyX4_ok, nmX4, fun h => absurd h (by decide)⟩
theorem fl_X0_115 : gFL RX0 115 1 3 := ⟨RX1, TX1, 5, tyX1, rfl, by decide, inG_X1, (gm_1 75 rfl rfl), tyX1_ok, nmX1, fun _ => rfl⟩
theorem fl_X1_9 : gFL RX1 9 1 0 := ⟨RX1, TX1, 5, tyX1, rfl, by decide, inG_X1, (gm_1 69 rfl rfl), tyX1_ok, nmX1, fun _ => rfl⟩
theorem fl_X1_15 : gFL RX1 15 1 1 := ⟨RX1, TX1, 5, tyX1, rfl, by decide, inG_X1, (gm_1 71 rfl rfl), tyX1_ok, nmX1, fun _ => rfl⟩
theorem fl_X1_18 : gFL RX1 18 1 2 := ⟨RX1, TX1, 5, tyX1, rfl, by decide, inG_X1, (gm_1 72 rfl rfl), tyX1_ok, nmX1, fun _ => rfl⟩
theorem fl_X1_21 : gFL RX1 21 1 3 := ⟨RX1, TX1, 5, tyX1, rfl, by decide, inG_X1, (gm_1 74 rfl rfl), tyX1_ok, nmX1, fun _ => rfl⟩
theorem fl_X1_24 : gFL RX1 24 1 4 := ⟨RX1, TX1, 5, tyX1, rfl, by decide, inG_X1, (gm_1 76 rfl rfl), tyX1_ok, nmX1, fun _ => rfl⟩
theorem fl_X3_9 : gFL RX3 9 3 0 := ⟨RX3, TX3, 3, tyX3, rfl, by decide, inG_X3, (gm_1 27 rfl rfl), tyX3_ok, nmX3, fun h => absurd h (by decide)⟩
theorem fl_X3_15 : gFL RX3 15 3 1 := ⟨RX3, TX3, 3, tyX3, rfl, by decide, inG_X3, (gm_1 29 rfl rfl), tyX3_ok, nmX3, fun h => absurd h (by decide)⟩
theorem fl_X3_18 : gFL RX3 18 3 2 := ⟨RX3, TX3, 3, tyX3, rfl, by decide, inG_X3, (gm_1 31 rfl rfl), tyX3_ok, nmX3, fun _ => rfl⟩
theorem fl_X4_9 : gFL RX4 9 4 0 := ⟨RX4, TX4, 3, tyX4, rfl, by decide, inG_X4, (gm_1 49 rfl rfl), tyX4_ok, nmX4, fun h => absurd h (by decide)⟩
theorem fl_X4_15 : gFL RX4 15 4 1 := ⟨RX4, TX4, 3, tyX4, rfl, by decide, inG_X4, (gm_1 51 rfl rfl), tyX4_ok, nmX4, fun _ => rfl⟩
theorem fl_X4_19 : gFL RX4 19 4 2 := ⟨RX4, TX4, 3, tyX4, rfl, by decide, inG_X4, (gm_1 54 rfl rfl), tyX4_ok, nmX4, fun _ => rfl⟩
theorem cv_X0_105 : gCV RX0 105 yX1_costOfReading cX1_costOfReading 3 (some .int) 2 1 := ⟨TX1, 5, rfl, (gm_2 67 rfl rfl), (gm_2 68 rfl rfl), (gm_2 69 rfl rfl), (gm_1 4 rfl rfl), (gm_2 70 rfl rfl), ⟨by decide, by decide, by decide +kernel⟩, by decide⟩
theorem cv_X0_110 : gCS RX0 110 yJ9_min_7cf53 cJ9_min_7cf53 2 (some .int) 2 := ⟨(gm_2 82 rfl rfl), (gm_2 75 rfl rfl), (gm_1 10 rfl rfl), (gm_2 76 rfl rfl), ⟨by decide, by decide, by decide +kernel⟩, by decide⟩
theorem cv_X1_27 : gCS RX1 27 yJ9_abs_0f7a4 cJ9_abs_0f7a4 1 (some .int) 1 := ⟨(gm_2 71 rfl rfl), (gm_2 72 rfl rfl), (gm_1 10 rfl rfl), (gm_2 73 rfl rfl), ⟨by decide, by decide, by decide +kernel⟩, by decide⟩
theorem cv_X1_33 : gCS RX1 33 yJ9_min_7cf53 cJ9_min_7cf53 2 (some .int) 2 := ⟨(gm_2 74 rfl rfl), (gm_2 75 rfl rfl), (gm_1 10 rfl rfl), (gm_2 76 rfl rfl), ⟨by decide, by decide, by decide +kernel⟩, by decide⟩
theorem ldc_X0_101 : Cond.constant RX0 101 (1000000000) ∈ gAll := (gm_2 62 rfl rfl)
theorem ldc_X0_109 : Cond.constant RX0 109 (2000000000) ∈ gAll := (gm_2 81 rfl rfl)
set_option maxRecDepth 100000 in
set_option maxHeartbeats 4000000 in
theorem bk_X1_costOfReading_0 {X : gX} {G : gG} (hX : gOk X G cX1_costOfReading 3 RX1 (some .int) 2) {Q : Int → gS → Prop} (hE : gEnd X G (gPi (fun v s' => Q v s' ∧ gRg s'))) (s : gS) (hs : gRg s) (x1 : Int) (x2 : Int)  (h : (rng x1) ∧ ((¬ x1 = (-1) → (rng (x1 - x2)) ∧ (rng (gabs (x1 - x2))) ∧ Q (min (gabs (x1 - x2)) 300) s) ∧ (x1 = (-1) → Q (s.1 3 1) s))) : gWL X G s 0 [(0, gR G 3), (1, vi x1), (2, vi x2)] [] := by
  refine g_iload_n hX dX1_costOfReading_0 1 rfl ?_
  refine g_iconst hX dX1_costOfReading_1 ?_
  obtain ⟨h1, h⟩ := h
  refine g_icne (tgt := 12) hX h1 (by unfold rng; omega) dX1_costOfReading_2 (by decide) (fun c2 => ?_) (fun c2 => ?_)
  · replace h := h.1 c2
    refine g_iload_n hX dX1_costOfReading_12 1 rfl ?_
    refine g_iload_n hX dX1_costOfReading_13 2 rfl ?_
    refine g_isub hX dX1_costOfReading_14 ?_
    obtain ⟨h3, h⟩ := h
    refine g_cSf (As := [vi (x1 - x2)]) hX (fun l => c_J9_abs_0f7a4 l hX.inj s (x1 - x2) hs h3) cv_X1_27 (by decide) rfl (Nat.le_of_ble_eq_true rfl) dX1_costOfReading_15 rfl (fun g4 => ?_)
    refine g_sipush hX dX1_costOfReading_18 rfl ?_
    obtain ⟨h5, h⟩ := h
    refine g_cSf (As := [vi (gabs (x1 - x2)), vi 300]) hX (fun l => c_J9_min_7cf53 l hX.inj s (gabs (x1 - x2)) 300 hs h5 (by unfold rng; omega)) cv_X1_33 (by decide) rfl (Nat.le_of_ble_eq_true rfl) dX1_costOfReading_21 rfl (fun g6 => ?_)
    exact g_iret hX hE dX1_costOfReading_24 ⟨h, hs⟩
  · replace h := h.2 (gnn c2)
    refine g_aload_n hX dX1_costOfReading_5 0 rfl ?_
    refine g_getI hX sh_3 1 rfl fl_X1_15 dX1_costOfReading_6 ?_
    refine g_goto (tgt := 24) hX dX1_costOfReading_9 (by decide) ?_
    exact g_iret hX hE dX1_costOfReading_24 ⟨h, hs⟩
set_option maxRecDepth 100000 in
set_option maxHeartbeats 4000000 in
theorem c_X1_costOfReading (l : Launch) {G : gG} (hG : gInj G) (s : gS) (x1 : Int) (x2 : Int) (p0 : gRg s) (p1 : -1 ≤ x1 ∧ x1 ≤ 4800) (p2 : 0 ≤ x2 ∧ x2 ≤ 4800) : gMet l G yX1_costOfReading cX1_costOfReading 3 (some .int) 2 [gR G 3, vi x1, vi x2] s (gPi (fun v s' => (v = (grc (s.1 3 1) x1 x2) ∧ s' = s) ∧ gRg s')) := by
  refine gMet_of (plainFor_of_name (by decide)) hG (Nat.le_of_ble_eq_true rfl) (fun X hX hE => ?_)
  refine bk_X1_costOfReading_0 hX hE s p0 x1 x2  ?_
  have hr : rng (gabs (x1 - x2)) := by unfold gabs; split <;> exact rng_of (by omega) (by omega)
  exact ⟨rng_of (by omega) (by omega), fun h => ⟨rng_of (by omega) (by omega), hr, (if_neg h).symm, rfl⟩, fun h => ⟨(if_pos h).symm, rfl⟩⟩
set_option maxRecDepth 100000 in
set_option maxHeartbeats 4000000 in
theorem bk_X1_costOfLength_0 {X : gX} {G : gG} (hX : gOk X G cX1_costOfLength 4 RX1 (some .int) 2) {Q : Int → gS → Prop} (hE : gEnd X G (gPi (fun v s' => Q v s' ∧ gRg s'))) (s : gS) (hs : gRg s) (x1 : Int) (x2 : Int)  (h : (rng (x1 - (x2 * (s.1 3 0)))) ∧ (rng x1) ∧ ((¬ x1 = 0 → Q ((s.1 3 2) * (gabs (x1 - (x2 * (s.1 3 0))))) s) ∧ (x1 = 0 → Q (((s.1 3 2) * (gabs (x1 - (x2 * (s.1 3 0))))) + (s.1 3 3)) s))) : gWL X G s 0 [(0, gR G 3), (1, vi x1), (2, vi x2)] [] := by
  refine g_aload_n hX dX1_costOfLength_0 0 rfl ?_
  refine g_getI hX sh_3 2 rfl fl_X1_18 dX1_costOfLength_1 ?_
  refine g_iload_n hX dX1_costOfLength_4 1 rfl ?_
  refine g_iload_n hX dX1_costOfLength_5 2 rfl ?_
  refine g_aload_n hX dX1_costOfLength_6 0 rfl ?_
  refine g_getI hX sh_3 0 rfl fl_X1_9 dX1_costOfLength_7 ?_
  refine g_imul hX dX1_costOfLength_10 ?_
  refine g_isub hX dX1_costOfLength_11 ?_
  obtain ⟨h1, h⟩ := h
  refine g_cSf (As := [vi (x1 - (x2 * (s.1 3 0)))]) hX (fun l => c_J9_abs_0f7a4 l hX.inj s (x1 - (x2 * (s.1 3 0))) hs h1) cv_X1_27 (by decide) rfl (Nat.le_of_ble_eq_true rfl) dX1_costOfLength_12 rfl (fun g2 => ?_)
  refine g_imul hX dX1_costOfLength_15 ?_
  refine g_istore_n (loc' := [(3, vi ((s.1 3 2) * (gabs (x1 - (x2 * (s.1 3 0)))))), (0, gR G 3), (1, vi x1), (2, vi x2)]) hX dX1_costOfLength_16 (by decide) rfl ?_
  refine g_iload_n hX dX1_costOfLength_17 2 rfl ?_
  obtain ⟨h3, h⟩ := h
  refine g_ifne (tgt := 30) hX h3 dX1_costOfLength_18 (by decide) (fun c4 => ?_) (fun c4 => ?_)
  · replace h := h.1 c4
    refine g_iload_n hX dX1_costOfLength_30 0 rfl ?_
    exact g_iret hX hE dX1_costOfLength_31 ⟨h, hs⟩
  · replace h := h.2 (gnn c4)
    refine g_iload_n hX dX1_costOfLength_21 0 rfl ?_
    refine g_aload_n hX dX1_costOfLength_22 1 rfl ?_
    refine g_getI hX sh_3 3 rfl fl_X1_21 dX1_costOfLength_23 ?_
    refine g_iadd hX dX1_costOfLength_26 ?_
    refine g_goto (tgt := 31) hX dX1_costOfLength_27 (by decide) ?_
    exact g_iret hX hE dX1_costOfLength_31 ⟨h, hs⟩
set_option maxRecDepth 100000 in
set_option maxHeartbeats 4000000 in
theorem c_X1_costOfLength (l : Launch) {G : gG} (hG : gInj G) (s : gS) (x1 : Int) (x2 : Int) (p0 : gRg s) (p1 : gMs s) (p2 : 0 ≤ x1 ∧ x1 ≤ 120) (p3 : 1 ≤ x2 ∧ x2 ≤ 8) : gMet l G yX1_costOfLength cX1_costOfLength 4 (some .int) 2 [gR G 3, vi x1, vi x2] s (gPi (fun v s' => (v = (gsc (s.1 3 0) (s.1 3 2) (s.1 3 3) x1 x2) ∧ s' = s) ∧ gRg s')) := by
  refine gMet_of (plainFor_of_name (by decide)) hG (Nat.le_of_ble_eq_true rfl) (fun X hX hE => ?_)
  refine bk_X1_costOfLength_0 hX hE s p0 x1 x2  ?_
  have hd := gmul_bd (a := x2) (b := s.1 3 0) (A := 8) (B := 8) (by omega) (by have := p1.1; omega)
  refine ⟨rng_of (by omega) (by omega), rng_of (by omega) (by omega), fun h => ⟨?_, rfl⟩, fun h => ⟨?_, rfl⟩⟩
  · unfold gsc; rw [if_neg h]; omega
  · unfold gsc; rw [if_pos h]
set_option maxRecDepth 100000 in
set_option maxHeartbeats 4000000 in
theorem bk_X1_change_0 {X : gX} {G : gG} (hX : gOk X G cX1_change 6 RX1 none 1) {Q : gS → Prop} (hE : gEnd X G (gPv (fun s' => Q s' ∧ gRg s'))) (s : gS) (hs : gRg s) (x1 : Int) (x2 : Int) (x3 : Int) (x4 : Int) (x5 : Int)  (h : (rng x1) ∧ (rng x2) ∧ (rng x3) ∧ (rng x4) ∧ (rng x5) ∧ Q (gpI (gpI (gpI (gpI (gpI s 3 0 x1) 3 1 x2) 3 2 x3) 3 3 x4) 3 4 x5)) : gWL X G s 0 [(0, gR G 3), (1, vi x1), (2, vi x2), (3, vi x3), (4, vi x4), (5, vi x5)] [] := by
  refine g_aload_n hX dX1_change_0 0 rfl ?_
  refine g_iload_n hX dX1_change_1 1 rfl ?_
  obtain ⟨h1, h⟩ := h
  refine g_putI hX sh_3 0 rfl fl_X1_9 (fun _ _ _ e => by cases e; rfl) dX1_change_2 ?_
  refine g_aload_n hX dX1_change_5 0 rfl ?_
  refine g_iload_n hX dX1_change_6 2 rfl ?_
  obtain ⟨h2, h⟩ := h
  refine g_putI hX sh_3 1 rfl fl_X1_15 (fun _ _ _ e => by cases e; rfl) dX1_change_7 ?_
  refine g_aload_n hX dX1_change_10 0 rfl ?_
  refine g_iload_n hX dX1_change_11 3 rfl ?_
  obtain ⟨h3, h⟩ := h
  refine g_putI hX sh_3 2 rfl fl_X1_18 (fun _ _ _ e => by cases e; rfl) dX1_change_12 ?_
  refine g_aload_n hX dX1_change_15 0 rfl ?_
  refine g_iload hX dX1_change_16 4 rfl ?_
  obtain ⟨h4, h⟩ := h
  refine g_putI hX sh_3 3 rfl fl_X1_21 (fun _ _ _ e => by cases e; rfl) dX1_change_18 ?_
  refine g_aload_n hX dX1_change_21 0 rfl ?_
  refine g_iload hX dX1_change_22 5 rfl ?_
  obtain ⟨h5, h⟩ := h
  refine g_putI hX sh_3 4 rfl fl_X1_24 (fun _ _ _ e => by cases e; rfl) dX1_change_24 ?_
  exact g_vret hX hE dX1_change_27 ⟨h, (gRg_I (gRg_I (gRg_I (gRg_I (gRg_I hs h1) h2) h3) h4) h5)⟩
set_option maxRecDepth 100000 in
set_option maxHeartbeats 4000000 in
theorem c_X1_change (l : Launch) {G : gG} (hG : gInj G) (s : gS) (x1 : Int) (x2 : Int) (x3 : Int) (x4 : Int) (x5 : Int) (p0 : gRg s) (p1 : rng x1) (p2 : rng x2) (p3 : rng x3) (p4 : rng x4) (p5 : rng x5) : gMet l G yX1_change cX1_change 6 none 1 [gR G 3, vi x1, vi x2, vi x3, vi x4, vi x5] s (gPv (fun s' => (s' = gpI (gpI (gpI (gpI (gpI s 3 0 x1) 3 1 x2) 3 2 x3) 3 3 x4) 3 4 x5) ∧ gRg s')) := by
  refine gMet_of (plainFor_of_name (by decide)) hG (Nat.le_of_ble_eq_true rfl) (fun X hX hE => ?_)
  refine bk_X1_change_0 hX hE s p0 x1 x2 x3 x4 x5  ?_
  exact ⟨p1, p2, p3, p4, p5, rfl⟩
set_option maxRecDepth 100000 in
set_option maxHeartbeats 4000000 in
theorem bk_X3_addNote_0 {X : gX} {G : gG} (hX : gOk X G cX3_addNote 3 RX3 (some .int) 1) {Q : Int → gS → Prop} (hE : gEnd X G (gPi (fun v s' => Q v s' ∧ gRg s'))) (s : gS) (hs : gRg s) (k0 : Int) (x1 : Int) (x2 : Int) (hk0 : 100 ≤ k0 ∧ k0 < 106) (h : (0 ≤ (s.1 k0 2) ∧ (s.1 k0 2) < 24) ∧ (rng x1) ∧ (rng x2) ∧ (rng ((s.1 k0 2) + 1)) ∧ Q ((s.1 k0 2) + 1) (gpI (gpA (gpA s (k0 + 10) (s.1 k0 2) x1) (k0 + 20) (s.1 k0 2) x2) k0 2 ((s.1 k0 2) + 1))) : gWL X G s 0 [(0, gR G k0), (1, vi x1), (2, vi x2)] [] := by
  refine g_aload_n hX dX3_addNote_0 0 rfl ?_
  refine g_getR hX (sh_piece (by omega) (by omega)) 0 rfl fl_X3_9 dX3_addNote_1 ?_
  refine g_aload_n hX dX3_addNote_4 0 rfl ?_
  refine g_getI hX (sh_piece (by omega) (by omega)) 2 rfl fl_X3_18 dX3_addNote_5 ?_
  refine g_iload_n hX dX3_addNote_8 1 rfl ?_
  obtain ⟨h1, h⟩ := h
  obtain ⟨h2, h⟩ := h
  refine g_iast hX (sh_pitches (by omega) (by omega)) h1 (by decide) dX3_addNote_9 ?_
  refine g_aload_n hX dX3_addNote_10 0 rfl ?_
  refine g_getR hX (sh_piece (by omega) (by omega)) 1 rfl fl_X3_15 dX3_addNote_11 ?_
  refine g_aload_n hX dX3_addNote_14 0 rfl ?_
  refine g_getI hX (sh_piece (by omega) (by omega)) 2 rfl fl_X3_18 dX3_addNote_15 ?_
  refine g_iload_n hX dX3_addNote_18 2 rfl ?_
  obtain ⟨h3, h⟩ := h
  refine g_iast hX (sh_beats (by omega) (by omega)) h1 (by decide) dX3_addNote_19 ?_
  refine g_aload_n hX dX3_addNote_20 0 rfl ?_
  refine g_dup hX rfl dX3_addNote_21 ?_
  refine g_getI hX (sh_piece (by omega) (by omega)) 2 rfl fl_X3_18 dX3_addNote_22 ?_
  refine g_iconst hX dX3_addNote_25 ?_
  refine g_iadd hX dX3_addNote_26 ?_
  obtain ⟨h4, h⟩ := h
  refine g_putI hX (sh_piece (by omega) (by omega)) 2 rfl fl_X3_18 (fun _ _ _ e => by cases e; rfl) dX3_addNote_27 ?_
  refine g_aload_n hX dX3_addNote_30 0 rfl ?_
  refine g_getI hX (sh_piece (by omega) (by omega)) 2 rfl fl_X3_18 dX3_addNote_31 ?_
  refine g_top gpI_eq ?_
  exact g_iret hX hE dX3_addNote_34 ⟨h, (gRg_I (gRg_A (gRg_A hs h2) h3) h4)⟩
set_option maxRecDepth 100000 in
set_option maxHeartbeats 4000000 in
theorem c_X3_addNote (l : Launch) {G : gG} (hG : gInj G) (s : gS) (k0 : Int) (x1 : Int) (x2 : Int) (p0 : gRg s) (p1 : rng x1) (p2 : rng x2) (p3 : 100 ≤ k0 ∧ k0 < 106) (p4 : 0 ≤ (s.1 k0 2) ∧ (s.1 k0 2) < 24) : gMet l G yX3_addNote cX3_addNote 3 (some .int) 1 [gR G k0, vi x1, vi x2] s (gPi (fun v s' => (v = (s.1 k0 2) + 1 ∧ s' = gpI (gpA (gpA s (k0 + 10) (s.1 k0 2) x1) (k0 + 20) (s.1 k0 2) x2) k0 2 ((s.1 k0 2) + 1)) ∧ gRg s')) := by
  refine gMet_of (plainFor_of_name (by decide)) hG (Nat.le_of_ble_eq_true rfl) (fun X hX hE => ?_)
  refine bk_X3_addNote_0 hX hE s p0 k0 x1 x2 p3 ?_
  exact ⟨p4, p1, p2, rng_of (by omega) (by omega), rfl, rfl⟩
set_option maxRecDepth 100000 in
set_option maxHeartbeats 4000000 in
theorem bk_X4_startAnew_0 {X : gX} {G : gG} (hX : gOk X G cX4_startAnew 3 RX4 (some .int) 1) {Q : Int → gS → Prop} (hE : gEnd X G (gPi (fun v s' => Q v s' ∧ gRg s'))) (s : gS) (hs : gRg s) (k0 : Int) (x1 : Int) (hk0 : 130 ≤ k0 ∧ k0 < 140) (h : (rng x1) ∧ Q (s.1 k0 1) (gpI (gpI s k0 1 0) k0 2 x1)) : gWL X G s 0 [(0, gR G k0), (1, vi x1)] [] := by
  refine g_aload_n hX dX4_startAnew_0 0 rfl ?_
  refine g_getI hX (sh_recording (by omega) (by omega)) 1 rfl fl_X4_15 dX4_startAnew_1 ?_
  refine g_istore_n (loc' := [(2, vi (s.1 k0 1)), (0, gR G k0), (1, vi x1)]) hX dX4_startAnew_4 (by decide) rfl ?_
  refine g_aload_n hX dX4_startAnew_5 1 rfl ?_
  refine g_iconst hX dX4_startAnew_6 ?_
  refine g_putI hX (sh_recording (by omega) (by omega)) 1 rfl fl_X4_15 (fun _ _ _ e => by cases e; rfl) dX4_startAnew_7 ?_
  refine g_aload_n hX dX4_startAnew_10 1 rfl ?_
  refine g_iload_n hX dX4_startAnew_11 2 rfl ?_
  obtain ⟨h1, h⟩ := h
  refine g_putI hX (sh_recording (by omega) (by omega)) 2 rfl fl_X4_19 (fun _ _ _ e => by cases e; rfl) dX4_startAnew_12 ?_
  refine g_iload_n hX dX4_startAnew_15 0 rfl ?_
  exact g_iret hX hE dX4_startAnew_16 ⟨h, (gRg_I (gRg_I hs (by unfold rng; omega)) h1)⟩
set_option maxRecDepth 100000 in
set_option maxHeartbeats 4000000 in
theorem c_X4_startAnew (l : Launch) {G : gG} (hG : gInj G) (s : gS) (k0 : Int) (x1 : Int) (p0 : gRg s) (p1 : rng x1) (p2 : 130 ≤ k0 ∧ k0 < 140) : gMet l G yX4_startAnew cX4_startAnew 3 (some .int) 1 [gR G k0, vi x1] s (gPi (fun v s' => (v = (s.1 k0 1) ∧ s' = gpI (gpI s k0 1 0) k0 2 x1) ∧ gRg s')) := by
  refine gMet_of (plainFor_of_name (by decide)) hG (Nat.le_of_ble_eq_true rfl) (fun X hX hE => ?_)
  refine bk_X4_startAnew_0 hX hE s p0 k0 x1 p2 ?_
  exact ⟨p1, rfl, rfl⟩
set_option maxRecDepth 100000 in
set_option maxHeartbeats 4000000 in
theorem bk_X4_addReadings_0 {X : gX} {G : gG} (hX : gOk X G cX4_addReadings 4 RX4 (some .int) 1) {Q : Int → gS → Prop} (hE : gEnd X G (gPi (fun v s' => Q v s' ∧ gRg s'))) (s : gS) (hs : gRg s) (k0 : Int) (x1 : Int) (x2 : Int) (hk0 : 130 ≤ k0 ∧ k0 < 140) (h : gWL X G s 2 [(0, gR G k0), (1, vi x1), (2, vi x2), (3, vi 0)] []) : gWL X G s 0 [(0, gR G k0), (1, vi x1), (2, vi x2)] [] := by
  refine g_iconst hX dX4_addReadings_0 ?_
  refine g_istore_n (loc' := [(3, vi 0), (0, gR G k0), (1, vi x1), (2, vi x2)]) hX dX4_addReadings_1 (by decide) rfl ?_
  exact g_sub [1, 2, 3, 0] rfl h
set_option maxRecDepth 100000 in
set_option maxHeartbeats 4000000 in
theorem bk_X4_addReadings_2 {X : gX} {G : gG} (hX : gOk X G cX4_addReadings 4 RX4 (some .int) 1) {Q : Int → gS → Prop} (hE : gEnd X G (gPi (fun v s' => Q v s' ∧ gRg s'))) (s : gS) (hs : gRg s) (k0 : Int) (x1 : Int) (x2 : Int) (x3 : Int) (hk0 : 130 ≤ k0 ∧ k0 < 140) (h : (rng x3) ∧ (rng x2) ∧ ((x2 ≤ x3 → Q (s.1 k0 1) s) ∧ (x3 < x2 → (0 ≤ (s.1 k0 1) ∧ (s.1 k0 1) < 120) ∧ (rng x1) ∧ (rng ((s.1 k0 1) + 1)) ∧ gWL X G (gpI (gpA s (k0 + 10) (s.1 k0 1) x1) k0 1 ((s.1 k0 1) + 1)) 2 [(0, gR G k0), (1, vi x1), (2, vi x2), (3, vi (x3 + 1))] []))) : gWL X G s 2 [(0, gR G k0), (1, vi x1), (2, vi x2), (3, vi x3)] [] := by
  refine g_iload_n hX dX4_addReadings_2 3 rfl ?_
  refine g_iload_n hX dX4_addReadings_3 2 rfl ?_
  obtain ⟨h1, h⟩ := h
  obtain ⟨h2, h⟩ := h
  refine g_icge (tgt := 33) hX h1 h2 dX4_addReadings_4 (by decide) (fun c3 => ?_) (fun c3 => ?_)
  · replace h := h.1 c3
    refine g_aload_n hX dX4_addReadings_33 0 rfl ?_
    refine g_getI hX (sh_recording (by omega) (by omega)) 1 rfl fl_X4_15 dX4_addReadings_34 ?_
    exact g_iret hX hE dX4_addReadings_37 ⟨h, hs⟩
  · replace h := h.2 (Int.not_le.mp c3)
    refine g_aload_n hX dX4_addReadings_7 0 rfl ?_
    refine g_getR hX (sh_recording (by omega) (by omega)) 0 rfl fl_X4_9 dX4_addReadings_8 ?_
    refine g_aload_n hX dX4_addReadings_11 0 rfl ?_
    refine g_getI hX (sh_recording (by omega) (by omega)) 1 rfl fl_X4_15 dX4_addReadings_12 ?_
    refine g_iload_n hX dX4_addReadings_15 1 rfl ?_
    obtain ⟨h4, h⟩ := h
    obtain ⟨h5, h⟩ := h
    refine g_iast hX (sh_readings (by omega) (by omega)) h4 (by decide) dX4_addReadings_16 ?_
    refine g_aload_n hX dX4_addReadings_17 0 rfl ?_
    refine g_dup hX rfl dX4_addReadings_18 ?_
    refine g_getI hX (sh_recording (by omega) (by omega)) 1 rfl fl_X4_15 dX4_addReadings_19 ?_
    refine g_iconst hX dX4_addReadings_22 ?_
    refine g_iadd hX dX4_addReadings_23 ?_
    obtain ⟨h6, h⟩ := h
    refine g_putI hX (sh_recording (by omega) (by omega)) 1 rfl fl_X4_15 (fun _ _ _ e => by cases e; rfl) dX4_addReadings_24 ?_
    refine g_iinc (loc' := [(3, vi (x3 + 1)), (0, gR G k0), (1, vi x1), (2, vi x2)]) hX dX4_addReadings_27 3 rfl (by decide) rfl ?_
    refine g_goto (tgt := 2) hX dX4_addReadings_30 (by decide) ?_
    exact g_sub [1, 2, 3, 0] rfl h
set_option maxRecDepth 100000 in
set_option maxHeartbeats 4000000 in
theorem c_X4_addReadings (l : Launch) {G : gG} (hG : gInj G) (s : gS) (k0 : Int) (x1 : Int) (x2 : Int) (p0 : gRg s) (p1 : rng x1) (p2 : 130 ≤ k0 ∧ k0 < 140) (p3 : 1 ≤ x2 ∧ x2 ≤ 60) (p4 : 0 ≤ (s.1 k0 1) ∧ (s.1 k0 1) + x2 ≤ 120) : gMet l G yX4_addReadings cX4_addReadings 4 (some .int) 1 [gR G k0, vi x1, vi x2] s (gPi (fun v s' => (v = (s.1 k0 1) + x2 ∧ s' = gpI (gfill s (k0 + 10) (s.1 k0 1) x1 x2) k0 1 ((s.1 k0 1) + x2)) ∧ gRg s')) := by
  refine gMet_of (plainFor_of_name (by decide)) hG (Nat.le_of_ble_eq_true rfl) (fun X hX hE => ?_)
  refine bk_X4_addReadings_0 hX hE s p0 k0 x1 x2 p2 ?_
  refine gloop (α := gS) (hi := x2) (fun i t => 0 ≤ i ∧ gRg t ∧ t = gpI (gfill s (k0 + 10) (s.1 k0 1) x1 i) k0 1 ((s.1 k0 1) + i)) (fun i t => gWL X G t 2 [(0, gR G k0), (1, vi x1), (2, vi x2), (3, vi i)] []) ?_ ?_ 0 s (by omega) ⟨by omega, p0, ?_⟩
  · intro i t hi ⟨h0, hg, ht⟩ next
    have e1 : t.1 k0 1 = s.1 k0 1 + i := by rw [ht, gpI_eq]
    refine bk_X4_addReadings_2 hX hE t hg k0 x1 x2 i p2 ⟨rng_of (by omega) (by omega), rng_of (by omega) (by omega), fun h => by omega, fun _ => ⟨by omega, p1, rng_of (by omega) (by omega), next _ ⟨by omega, gRg_I (gRg_A hg p1) (rng_of (by omega) (by omega)), ?_⟩⟩⟩
    rw [e1, ht]
    unfold gfill
    rw [giter_s _ _ h0]
    exact gfill_put _ _ _ _ _ _ _
  · intro t ⟨h0, hg, ht⟩
    have e1 : t.1 k0 1 = s.1 k0 1 + x2 := by rw [ht, gpI_eq]
    exact bk_X4_addReadings_2 hX hE t hg k0 x1 x2 x2 p2 ⟨rng_of (by omega) (by omega), rng_of (by omega) (by omega), fun _ => ⟨e1, ht⟩, fun h => by omega⟩
  · have e : gfill s (k0 + 10) (s.1 k0 1) x1 0 = s := rfl
    rw [e]
    refine Prod.ext ?_ rfl
    funext k j
    show s.1 k j = if k = k0 ∧ j = 1 then s.1 k0 1 + 0 else s.1 k j
    split
    · next h => rw [h.1, h.2]; omega
    · rfl
set_option maxRecDepth 100000 in
set_option maxHeartbeats 4000000 in
theorem bk_X0_forget_0 {X : gX} {G : gG} (hX : gOk X G cX0_forget 1 RX0 none 1) {Q : gS → Prop} (hE : gEnd X G (gPv (fun s' => Q s' ∧ gRg s'))) (s : gS) (hs : gRg s)   (h : Q (gpI s 4 8 (-1))) : gWL X G s 0 [(0, gR G 4)] [] := by
  refine g_aload_n hX dX0_forget_0 0 rfl ?_
  refine g_iconst hX dX0_forget_1 ?_
  refine g_putI hX sh_4 8 rfl fl_X0_37 (fun _ _ _ e => by cases e; rfl) dX0_forget_2 ?_
  exact g_vret hX hE dX0_forget_5 ⟨h, (gRg_I hs (by unfold rng; omega))⟩
set_option maxRecDepth 100000 in
set_option maxHeartbeats 4000000 in
theorem c_X0_forget (l : Launch) {G : gG} (hG : gInj G) (s : gS)  (p0 : gRg s) : gMet l G yX0_forget cX0_forget 1 none 1 [gR G 4] s (gPv (fun s' => (s' = gpI s 4 8 (-1)) ∧ gRg s')) := by
  refine gMet_of (plainFor_of_name (by decide)) hG (Nat.le_of_ble_eq_true rfl) (fun X hX hE => ?_)
  refine bk_X0_forget_0 hX hE s p0   ?_
  rfl
set_option maxRecDepth 100000 in
set_option maxHeartbeats 4000000 in
theorem bk_X0_endAt_0 {X : gX} {G : gG} (hX : gOk X G cX0_endAt 3 RX0 none 1) {Q : gS → Prop} (hE : gEnd X G (gPv (fun s' => Q s' ∧ gRg s'))) (s : gS) (hs : gRg s) (x1 : Int)  (h : gWL X G s 2 [(0, gR G 4), (1, vi x1), (2, vi 0)] []) : gWL X G s 0 [(0, gR G 4), (1, vi x1)] [] := by
  refine g_iconst hX dX0_endAt_0 ?_
  refine g_istore_n (loc' := [(2, vi 0), (0, gR G 4), (1, vi x1)]) hX dX0_endAt_1 (by decide) rfl ?_
  exact g_sub [1, 2, 0] rfl h
set_option maxRecDepth 100000 in
set_option maxHeartbeats 4000000 in
theorem bk_X0_endAt_2 {X : gX} {G : gG} (hX : gOk X G cX0_endAt 3 RX0 none 1) {Q : gS → Prop} (hE : gEnd X G (gPv (fun s' => Q s' ∧ gRg s'))) (s : gS) (hs : gRg s) (x1 : Int) (x2 : Int)  (h : (rng x2) ∧ (rng x1) ∧ ((x1 ≤ x2 → (0 ≤ (s.1 4 4) ∧ (s.1 4 4) < 25) ∧ (0 ≤ x1 ∧ x1 < 121) ∧ Q (gpA s (200 + (s.1 4 4)) x1 0)) ∧ (x2 < x1 → (0 ≤ (s.1 4 4) ∧ (s.1 4 4) < 25) ∧ (0 ≤ x2 ∧ x2 < 121) ∧ gWL X G (gpA s (200 + (s.1 4 4)) x2 1000000000) 2 [(0, gR G 4), (1, vi x1), (2, vi (x2 + 1))] []))) : gWL X G s 2 [(0, gR G 4), (1, vi x1), (2, vi x2)] [] := by
  refine g_iload_n hX dX0_endAt_2 2 rfl ?_
  refine g_iload_n hX dX0_endAt_3 1 rfl ?_
  obtain ⟨h1, h⟩ := h
  obtain ⟨h2, h⟩ := h
  refine g_icge (tgt := 26) hX h1 h2 dX0_endAt_4 (by decide) (fun c3 => ?_) (fun c3 => ?_)
  · replace h := h.1 c3
    refine g_aload_n hX dX0_endAt_26 0 rfl ?_
    refine g_getR hX sh_4 9 rfl fl_X0_42 dX0_endAt_27 ?_
    refine g_aload_n hX dX0_endAt_30 0 rfl ?_
    refine g_getI hX sh_4 4 rfl fl_X0_24 dX0_endAt_31 ?_
    obtain ⟨h4, h⟩ := h
    have k5 := h4
    refine g_aald (kd := 4) (q := (200 + (s.1 4 4))) hX sh_13 rfl rfl h4 (by decide) (by show 200 + (((s.1 4 4) : Int).toNat : Int) = _; omega) dX0_endAt_34 ?_
    refine g_iload_n hX dX0_endAt_35 1 rfl ?_
    refine g_iconst hX dX0_endAt_36 ?_
    obtain ⟨h6, h⟩ := h
    refine g_iast hX (sh_bestrow (by omega) (by omega)) h6 (by decide) dX0_endAt_37 ?_
    exact g_vret hX hE dX0_endAt_38 ⟨h, (gRg_A hs (by unfold rng; omega))⟩
  · replace h := h.2 (Int.not_le.mp c3)
    refine g_aload_n hX dX0_endAt_7 0 rfl ?_
    refine g_getR hX sh_4 9 rfl fl_X0_42 dX0_endAt_8 ?_
    refine g_aload_n hX dX0_endAt_11 0 rfl ?_
    refine g_getI hX sh_4 4 rfl fl_X0_24 dX0_endAt_12 ?_
    obtain ⟨h7, h⟩ := h
    have k8 := h7
    refine g_aald (kd := 4) (q := (200 + (s.1 4 4))) hX sh_13 rfl rfl h7 (by decide) (by show 200 + (((s.1 4 4) : Int).toNat : Int) = _; omega) dX0_endAt_15 ?_
    refine g_iload_n hX dX0_endAt_16 2 rfl ?_
    refine g_ldc (n := 1000000000) hX ldc_X0_101 dX0_endAt_17 rfl ?_
    obtain ⟨h9, h⟩ := h
    refine g_iast hX (sh_bestrow (by omega) (by omega)) h9 (by decide) dX0_endAt_19 ?_
    refine g_iinc (loc' := [(2, vi (x2 + 1)), (0, gR G 4), (1, vi x1)]) hX dX0_endAt_20 2 rfl (by decide) rfl ?_
    refine g_goto (tgt := 2) hX dX0_endAt_23 (by decide) ?_
    exact g_sub [1, 2, 0] rfl h
set_option maxRecDepth 100000 in
set_option maxHeartbeats 4000000 in
theorem c_X0_endAt (l : Launch) {G : gG} (hG : gInj G) (s : gS) (x1 : Int) (p0 : gRg s) (p1 : 0 ≤ x1 ∧ x1 ≤ 120) (p2 : 0 ≤ (s.1 4 4) ∧ (s.1 4 4) ≤ 24) : gMet l G yX0_endAt cX0_endAt 3 none 1 [gR G 4, vi x1] s (gPv (fun s' => (goff s s' (200 + s.1 4 4) ∧ ∀ i : Int, 0 ≤ i → i ≤ x1 → s'.2 (200 + s.1 4 4) i = if i = x1 then 0 else 1000000000) ∧ gRg s')) := by
  refine gMet_of (plainFor_of_name (by decide)) hG (Nat.le_of_ble_eq_true rfl) (fun X hX hE => ?_)
  refine bk_X0_endAt_0 hX hE s p0 x1  ?_
  refine gloop (α := gS) (hi := x1) (fun i t => 0 ≤ i ∧ gRg t ∧ goff s t (200 + s.1 4 4) ∧ ∀ j : Int, 0 ≤ j → j < i → t.2 (200 + s.1 4 4) j = 1000000000) (fun i t => gWL X G t 2 [(0, gR G 4), (1, vi x1), (2, vi i)] []) ?_ ?_ 0 s p1.1 ⟨by omega, p0, goff.rf _ _, fun j h0 h1 => by omega⟩
  · intro i t hi ⟨h0, hg, ho, hz⟩ next
    have e4 : t.1 4 4 = s.1 4 4 := by rw [ho.1]
    refine bk_X0_endAt_2 hX hE t hg x1 i ⟨rng_of (by omega) (by omega), rng_of (by omega) (by omega), fun h => by omega, fun _ => ⟨by omega, by omega, ?_⟩⟩
    rw [e4]
    refine next _ ⟨by omega, gRg_A hg (rng_of (by omega) (by omega)), ho.put _ _, fun j j0 j1 => ?_⟩
    by_cases e : j = i
    · subst e; exact gpA_eq
    · rw [gpA_ni e]; exact hz j j0 (by omega)
  · intro t ⟨h0, hg, ho, hz⟩
    have e4 : t.1 4 4 = s.1 4 4 := by rw [ho.1]
    refine bk_X0_endAt_2 hX hE t hg x1 x1 ⟨rng_of (by omega) (by omega), rng_of (by omega) (by omega), fun _ => ⟨by omega, by omega, ?_⟩, fun h => by omega⟩
    rw [e4]
    refine ⟨ho.put _ _, fun j j0 j1 => ?_⟩
    by_cases e : j = x1
    · subst e; rw [if_pos rfl]; exact gpA_eq
    · rw [gpA_ni e, if_neg e]; exact hz j j0 (by omega)
set_option maxRecDepth 100000 in
set_option maxHeartbeats 4000000 in
theorem bk_X0_addUpReadings_0 {X : gX} {G : gG} (hX : gOk X G cX0_addUpReadings 5 RX0 none 3) {Q : gS → Prop} (hE : gEnd X G (gPv (fun s' => Q s' ∧ gRg s'))) (s : gS) (hs : gRg s) (k1 : Int) (x3 : Int) (hk1 : 130 ≤ k1 ∧ k1 < 140) (h : gWL X G (gpA s 14 0 0) 10 [(0, gR G 4), (1, gR G k1), (2, gR G 3), (3, vi x3), (4, vi 0)] []) : gWL X G s 0 [(0, gR G 4), (1, gR G k1), (2, gR G 3), (3, vi x3)] [] := by
  refine g_aload_n hX dX0_addUpReadings_0 0 rfl ?_
  refine g_getR hX sh_4 10 rfl fl_X0_45 dX0_addUpReadings_1 ?_
  refine g_iconst hX dX0_addUpReadings_4 ?_
  refine g_iconst hX dX0_addUpReadings_5 ?_
  refine g_iast hX sh_14 (by omega) (by decide) dX0_addUpReadings_6 ?_
  refine g_iconst hX dX0_addUpReadings_7 ?_
  refine g_istore (loc' := [(4, vi 0), (0, gR G 4), (1, gR G k1), (2, gR G 3), (3, vi x3)]) hX dX0_addUpReadings_8 (by decide) rfl ?_
  exact g_sub [1, 2, 3, 4, 0] rfl h
set_option maxRecDepth 100000 in
set_option maxHeartbeats 4000000 in
theorem bk_X0_addUpReadings_10 {X : gX} {G : gG} (hX : gOk X G cX0_addUpReadings 5 RX0 none 3) {Q : gS → Prop} (hE : gEnd X G (gPv (fun s' => Q s' ∧ gRg s'))) (s : gS) (hs : gRg s) (k1 : Int) (x3 : Int) (x4 : Int) (hk1 : 130 ≤ k1 ∧ k1 < 140) (h : (rng x4) ∧ (((s.1 k1 1) ≤ x4 → Q s) ∧ (x4 < (s.1 k1 1) → (0 ≤ x4 ∧ x4 < 121) ∧ (0 ≤ x4 ∧ x4 < 120) ∧ (-1 ≤ (s.2 (k1 + 10) x4) ∧ (s.2 (k1 + 10) x4) ≤ 4800) ∧ (0 ≤ x3 ∧ x3 ≤ 4800) ∧ (0 ≤ (x4 + 1) ∧ (x4 + 1) < 121) ∧ (rng ((s.2 14 x4) + (grc (s.1 3 1) (s.2 (k1 + 10) x4) x3))) ∧ gWL X G (gpA s 14 (x4 + 1) ((s.2 14 x4) + (grc (s.1 3 1) (s.2 (k1 + 10) x4) x3))) 10 [(0, gR G 4), (1, gR G k1), (2, gR G 3), (3, vi x3), (4, vi (x4 + 1))] []))) : gWL X G s 10 [(0, gR G 4), (1, gR G k1), (2, gR G 3), (3, vi x3), (4, vi x4)] [] := by
  refine g_iload hX dX0_addUpReadings_10 4 rfl ?_
  refine g_aload_n hX dX0_addUpReadings_12 1 rfl ?_
  refine g_getI hX (sh_recording (by omega) (by omega)) 1 rfl fl_X0_57 dX0_addUpReadings_13 ?_
  obtain ⟨h1, h⟩ := h
  refine g_icge (tgt := 54) hX h1 (hs.1 _ _) dX0_addUpReadings_16 (by decide) (fun c2 => ?_) (fun c2 => ?_)
  · replace h := h.1 c2
    exact g_vret hX hE dX0_addUpReadings_54 ⟨h, hs⟩
  · replace h := h.2 (Int.not_le.mp c2)
    refine g_aload_n hX dX0_addUpReadings_19 0 rfl ?_
    refine g_getR hX sh_4 10 rfl fl_X0_45 dX0_addUpReadings_20 ?_
    refine g_iload hX dX0_addUpReadings_23 4 rfl ?_
    refine g_iconst hX dX0_addUpReadings_25 ?_
    refine g_iadd hX dX0_addUpReadings_26 ?_
    refine g_aload_n hX dX0_addUpReadings_27 0 rfl ?_
    refine g_getR hX sh_4 10 rfl fl_X0_45 dX0_addUpReadings_28 ?_
    refine g_iload hX dX0_addUpReadings_31 4 rfl ?_
    obtain ⟨h3, h⟩ := h
    refine g_iald hX sh_14 h3 (by decide) dX0_addUpReadings_33 ?_
    refine g_aload_n hX dX0_addUpReadings_34 2 rfl ?_
    refine g_aload_n hX dX0_addUpReadings_35 1 rfl ?_
    refine g_getR hX (sh_recording (by omega) (by omega)) 0 rfl fl_X0_102 dX0_addUpReadings_36 ?_
    refine g_iload hX dX0_addUpReadings_39 4 rfl ?_
    obtain ⟨h4, h⟩ := h
    refine g_iald hX (sh_readings (by omega) (by omega)) h4 (by decide) dX0_addUpReadings_41 ?_
    refine g_iload_n hX dX0_addUpReadings_42 3 rfl ?_
    obtain ⟨h5, h⟩ := h
    obtain ⟨h6, h⟩ := h
    refine g_cVf (As := [vi (s.2 (k1 + 10) x4), vi x3]) hX (fun l => c_X1_costOfReading l hX.inj s (s.2 (k1 + 10) x4) x3 hs h5 h6) sh_3 cv_X0_105 (by decide) rfl (Nat.le_of_ble_eq_true rfl) dX0_addUpReadings_43 rfl (fun g7 => ?_)
    refine g_iadd hX dX0_addUpReadings_46 ?_
    obtain ⟨h8, h⟩ := h
    obtain ⟨h9, h⟩ := h
    refine g_iast hX sh_14 h8 (by decide) dX0_addUpReadings_47 ?_
    refine g_iinc (loc' := [(4, vi (x4 + 1)), (0, gR G 4), (1, gR G k1), (2, gR G 3), (3, vi x3)]) hX dX0_addUpReadings_48 4 rfl (by decide) rfl ?_
    refine g_goto (tgt := 10) hX dX0_addUpReadings_51 (by decide) ?_
    exact g_sub [1, 2, 3, 4, 0] rfl h
set_option maxRecDepth 100000 in
set_option maxHeartbeats 4000000 in
theorem c_X0_addUpReadings (l : Launch) {G : gG} (hG : gInj G) (s : gS) (k1 : Int) (_ : Int) (x3 : Int) (p0 : gRg s) (p1 : gMs s) (p2 : 130 ≤ k1 ∧ k1 < 140) (p3 : 0 ≤ x3 ∧ x3 ≤ 4800) (p4 : gRd s k1) : gMet l G yX0_addUpReadings cX0_addUpReadings 5 none 3 [gR G 4, gR G k1, gR G 3, vi x3] s (gPv (fun s' => (goff s s' 14 ∧ ∀ i : Int, 0 ≤ i → i ≤ s.1 k1 1 → s'.2 14 i = gsum (fun q => grc (s.1 3 1) (s.2 (k1 + 10) q) x3) i) ∧ gRg s')) := by
  refine gMet_of (plainFor_of_name (by decide)) hG (Nat.le_of_ble_eq_true rfl) (fun X hX hE => ?_)
  refine bk_X0_addUpReadings_0 hX hE s p0 k1 x3 p2 ?_
  have hm := p1.2.1
  have hrd := p4.1
  refine gloop (α := gS) (hi := s.1 k1 1) (fun i t => 0 ≤ i ∧ gRg t ∧ goff s t 14 ∧ ∀ j : Int, 0 ≤ j → j ≤ i → t.2 14 j = gsum (fun q => grc (s.1 3 1) (s.2 (k1 + 10) q) x3) j) (fun i t => gWL X G t 10 [(0, gR G 4), (1, gR G k1), (2, gR G 3), (3, vi x3), (4, vi i)] []) ?_ ?_ 0 _ hrd.1 ⟨by omega, gRg_A p0 rng_0, (goff.rf s 14).put 0 0, fun j h0 h1 => by rw [show j = 0 by omega]; exact gpA_eq⟩
  · intro i t hi ⟨h0, hg, ho, hz⟩ next
    have e1 : t.1 k1 1 = s.1 k1 1 := by rw [ho.1]
    have e2 : t.2 (k1 + 10) = s.2 (k1 + 10) := ho.2 _ (by omega)
    have e3 : t.1 3 1 = s.1 3 1 := by rw [ho.1]
    have hr := p4.2 i h0 hi
    have hb := gsum_bd (f := fun q => grc (s.1 3 1) (s.2 (k1 + 10) q) x3) (n := i) (lo := 0) (hi := 1000) h0 (fun q _ _ => grc_bd hm)
    have hb1 := grc_bd (r := s.2 (k1 + 10) i) (p := x3) hm
    have hzi := hz i h0 (by omega)
    refine bk_X0_addUpReadings_10 hX hE t hg k1 x3 i p2 ⟨rng_of (by omega) (by omega), fun h => by omega, fun _ => ⟨by omega, by omega, by rw [e2]; exact hr, p3, by omega, by rw [e2, e3, hzi]; exact rng_of (by omega) (by omega), ?_⟩⟩
    rw [e2, e3, hzi]
    refine next _ ⟨by omega, gRg_A hg (rng_of (by omega) (by omega)), ho.put _ _, fun j j0 j1 => ?_⟩
    by_cases e : j = i + 1
    · subst e; rw [gpA_eq, gsum_s _ h0]
    · rw [gpA_ni e]; exact hz j j0 (by omega)
  · intro t ⟨h0, hg, ho, hz⟩
    have e1 : t.1 k1 1 = s.1 k1 1 := by rw [ho.1]
    exact bk_X0_addUpReadings_10 hX hE t hg k1 x3 _ p2 ⟨rng_of (by omega) (by omega), fun _ => ⟨ho, hz⟩, fun h => by omega⟩
set_option maxRecDepth 100000 in
set_option maxHeartbeats 4000000 in
theorem bk_X0_splitByLength_0 {X : gX} {G : gG} (hX : gOk X G cX0_splitByLength 7 RX0 none 2) {Q : gS → Prop} (hE : gEnd X G (gPv (fun s' => Q s' ∧ gRg s'))) (s : gS) (hs : gRg s) (k1 : Int) (x2 : Int) (x3 : Int) (hk1 : 200 ≤ k1 ∧ k1 < 225) (h : gWL X G s 7 [(0, gR G 4), (1, gR G k1), (3, vi x3), (4, vi 2000000000), (5, vi x2)] []) : gWL X G s 0 [(0, gR G 4), (1, gR G k1), (2, vi x2), (3, vi x3)] [] := by
  refine g_ldc (n := 2000000000) hX ldc_X0_109 dX0_splitByLength_0 rfl ?_
  refine g_istore (loc' := [(4, vi 2000000000), (0, gR G 4), (1, gR G k1), (2, vi x2), (3, vi x3)]) hX dX0_splitByLength_2 (by decide) rfl ?_
  refine g_iload_n hX dX0_splitByLength_4 3 rfl ?_
  refine g_istore (loc' := [(5, vi x2), (4, vi 2000000000), (0, gR G 4), (1, gR G k1), (2, vi x2), (3, vi x3)]) hX dX0_splitByLength_5 (by decide) rfl ?_
  exact g_sub [2, 3, 5, 1, 0] rfl h
set_option maxRecDepth 100000 in
set_option maxHeartbeats 4000000 in
theorem bk_X0_splitByLength_7 {X : gX} {G : gG} (hX : gOk X G cX0_splitByLength 7 RX0 none 2) {Q : gS → Prop} (hE : gEnd X G (gPv (fun s' => Q s' ∧ gRg s'))) (s : gS) (hs : gRg s) (k1 : Int) (x3 : Int) (x4 : Int) (x5 : Int) (hk1 : 200 ≤ k1 ∧ k1 < 225) (h : (rng x5) ∧ ((x5 < 0 → Q s) ∧ (0 ≤ x5 → (0 ≤ x5 ∧ x5 < 121) ∧ (rng (((s.2 14 x5) + (s.2 k1 x5)) - (x3 * x5))) ∧ (rng x4) ∧ (rng (((s.2 14 x5) + (s.2 k1 x5)) + (x3 * x5))) ∧ (rng (min x4 (((s.2 14 x5) + (s.2 k1 x5)) + (x3 * x5)))) ∧ gWL X G (gpA (gpA s 15 x5 (((s.2 14 x5) + (s.2 k1 x5)) - (x3 * x5))) 16 x5 (min x4 (((s.2 14 x5) + (s.2 k1 x5)) + (x3 * x5)))) 7 [(0, gR G 4), (1, gR G k1), (3, vi x3), (4, vi (min x4 (((s.2 14 x5) + (s.2 k1 x5)) + (x3 * x5)))), (5, vi (x5 - 1))] []))) : gWL X G s 7 [(0, gR G 4), (1, gR G k1), (3, vi x3), (4, vi x4), (5, vi x5)] [] := by
  refine g_iload hX dX0_splitByLength_7 4 rfl ?_
  obtain ⟨h1, h⟩ := h
  refine g_iflt (tgt := 69) hX h1 dX0_splitByLength_9 (by decide) (fun c2 => ?_) (fun c2 => ?_)
  · replace h := h.1 c2
    exact g_vret hX hE dX0_splitByLength_69 ⟨h, hs⟩
  · replace h := h.2 (Int.not_lt.mp c2)
    refine g_aload_n hX dX0_splitByLength_12 0 rfl ?_
    refine g_getR hX sh_4 10 rfl fl_X0_45 dX0_splitByLength_13 ?_
    refine g_iload hX dX0_splitByLength_16 4 rfl ?_
    obtain ⟨h3, h⟩ := h
    refine g_iald hX sh_14 h3 (by decide) dX0_splitByLength_18 ?_
    refine g_aload_n hX dX0_splitByLength_19 1 rfl ?_
    refine g_iload hX dX0_splitByLength_20 4 rfl ?_
    refine g_iald hX (sh_bestrow (by omega) (by omega)) h3 (by decide) dX0_splitByLength_22 ?_
    refine g_iadd hX dX0_splitByLength_23 ?_
    refine g_istore (loc' := [(6, vi ((s.2 14 x5) + (s.2 k1 x5))), (0, gR G 4), (1, gR G k1), (3, vi x3), (4, vi x4), (5, vi x5)]) hX dX0_splitByLength_24 (by decide) rfl ?_
    refine g_aload_n hX dX0_splitByLength_26 1 rfl ?_
    refine g_getR hX sh_4 11 rfl fl_X0_48 dX0_splitByLength_27 ?_
    refine g_iload hX dX0_splitByLength_30 5 rfl ?_
    refine g_iload hX dX0_splitByLength_32 0 rfl ?_
    refine g_iload_n hX dX0_splitByLength_34 3 rfl ?_
    refine g_iload hX dX0_splitByLength_35 5 rfl ?_
    refine g_imul hX dX0_splitByLength_37 ?_
    refine g_isub hX dX0_splitByLength_38 ?_
    obtain ⟨h4, h⟩ := h
    refine g_iast hX sh_15 h3 (by decide) dX0_splitByLength_39 ?_
    refine g_iload hX dX0_splitByLength_40 4 rfl ?_
    refine g_iload hX dX0_splitByLength_42 0 rfl ?_
    refine g_iload_n hX dX0_splitByLength_44 3 rfl ?_
    refine g_iload hX dX0_splitByLength_45 5 rfl ?_
    refine g_imul hX dX0_splitByLength_47 ?_
    refine g_iadd hX dX0_splitByLength_48 ?_
    obtain ⟨h5, h⟩ := h
    obtain ⟨h6, h⟩ := h
    refine g_cSf (As := [vi x4, vi (((s.2 14 x5) + (s.2 k1 x5)) + (x3 * x5))]) hX (fun l => c_J9_min_7cf53 l hX.inj (gpA s 15 x5 (((s.2 14 x5) + (s.2 k1 x5)) - (x3 * x5))) x4 (((s.2 14 x5) + (s.2 k1 x5)) + (x3 * x5)) (gRg_A hs h4) h5 h6) cv_X0_110 (by decide) rfl (Nat.le_of_ble_eq_true rfl) dX0_splitByLength_49 rfl (fun g7 => ?_)
    refine g_istore (loc' := [(4, vi (min x4 (((s.2 14 x5) + (s.2 k1 x5)) + (x3 * x5)))), (6, vi ((s.2 14 x5) + (s.2 k1 x5))), (0, gR G 4), (1, gR G k1), (3, vi x3), (5, vi x5)]) hX dX0_splitByLength_52 (by decide) rfl ?_
    refine g_aload_n hX dX0_splitByLength_54 2 rfl ?_
    refine g_getR hX sh_4 12 rfl fl_X0_51 dX0_splitByLength_55 ?_
    refine g_iload hX dX0_splitByLength_58 5 rfl ?_
    refine g_iload hX dX0_splitByLength_60 0 rfl ?_
    obtain ⟨h8, h⟩ := h
    refine g_iast hX sh_16 h3 (by decide) dX0_splitByLength_62 ?_
    refine g_iinc (loc' := [(5, vi (x5 - 1)), (4, vi (min x4 (((s.2 14 x5) + (s.2 k1 x5)) + (x3 * x5)))), (6, vi ((s.2 14 x5) + (s.2 k1 x5))), (0, gR G 4), (1, gR G k1), (3, vi x3)]) hX dX0_splitByLength_63 5 rfl (by decide) rfl ?_
    refine g_goto (tgt := 7) hX dX0_splitByLength_66 (by decide) ?_
    exact g_sub [3, 4, 5, 1, 0] rfl h
set_option maxRecDepth 100000 in
set_option maxHeartbeats 4000000 in
theorem c_X0_splitByLength (l : Launch) {G : gG} (hG : gInj G) (s : gS) (k1 : Int) (x2 : Int) (x3 : Int) (p0 : gRg s) (p1 : 200 ≤ k1 ∧ k1 < 225) (p2 : 0 ≤ x2 ∧ x2 ≤ 120) (p3 : 0 ≤ x3 ∧ x3 ≤ 1000) (p4 : gSB s k1 x2) : gMet l G yX0_splitByLength cX0_splitByLength 7 none 2 [gR G 4, gR G k1, vi x2, vi x3] s (gPv (fun s' => (goff2 s s' 15 16 ∧ ∀ i : Int, 0 ≤ i → i ≤ x2 → s'.2 15 i = (s.2 14 i + s.2 k1 i) - x3 * i ∧ gMn (fun j => (s.2 14 j + s.2 k1 j) + x3 * j) i x2 (s'.2 16 i)) ∧ gRg s')) := by
  refine gMet_of (plainFor_of_name (by decide)) hG (Nat.le_of_ble_eq_true rfl) (fun X hX hE => ?_)
  refine bk_X0_splitByLength_0 hX hE s p0 k1 x2 x3 p1 ?_
  have hst : ∀ i : Int, 0 ≤ i → i ≤ x2 → 0 ≤ x3 * i ∧ x3 * i ≤ 120000 := fun i h0 h1 => gmul_bd (A := 1000) (B := 120) p3 (by omega)
  refine gloopD (α := gS × Int) (lo := -1) (fun i a => i ≤ x2 ∧ gRg a.1 ∧ goff2 s a.1 15 16 ∧ ((i = x2 ∧ a.2 = 2000000000) ∨ (i < x2 ∧ gMn (fun j => (s.2 14 j + s.2 k1 j) + x3 * j) (i + 1) x2 a.2)) ∧ ∀ j : Int, i < j → j ≤ x2 → a.1.2 15 j = (s.2 14 j + s.2 k1 j) - x3 * j ∧ gMn (fun j => (s.2 14 j + s.2 k1 j) + x3 * j) j x2 (a.1.2 16 j)) (fun i a => gWL X G a.1 7 [(0, gR G 4), (1, gR G k1), (3, vi x3), (4, vi a.2), (5, vi i)] []) ?_ ?_ x2 (s, 2000000000) (by omega) ⟨by omega, p0, goff2.rf _ _ _, Or.inl ⟨rfl, rfl⟩, fun j h0 h1 => by omega⟩
  · intro i ⟨t, le⟩ hi ⟨hin, hg, ho, hle, hz⟩ next
    dsimp only at hg ho hle hz ⊢
    have e14 : t.2 14 = s.2 14 := ho.2 _ (by decide) (by decide)
    have ek : t.2 k1 = s.2 k1 := ho.2 _ (by omega) (by omega)
    have hb := p4 i (by omega) hin
    have hs := hst i (by omega) hin
    have hler : -2147483648 ≤ le ∧ le ≤ 2000000000 := by
      rcases hle with ⟨_, h⟩ | ⟨_, ⟨j, j1, j2, j3⟩, _⟩
      · omega
      · have := p4 j (by omega) j2
        have := hst j (by omega) j2
        dsimp only at j3
        omega
    have hmn : gMn (fun j => (s.2 14 j + s.2 k1 j) + x3 * j) i x2 (min le ((s.2 14 i + s.2 k1 i) + x3 * i)) := by
      rcases hle with ⟨h1, h⟩ | ⟨_, h⟩
      · have := gMn.one (fun j => (s.2 14 j + s.2 k1 j) + x3 * j) i
        rw [show min le ((s.2 14 i + s.2 k1 i) + x3 * i) = (s.2 14 i + s.2 k1 i) + x3 * i by omega]
        rw [← h1]; exact this
      · exact h.down
    refine bk_X0_splitByLength_7 hX hE t hg k1 x3 le i p1 ⟨rng_of (by omega) (by omega), fun h => by omega, fun _ => ⟨by omega, by rw [e14, ek]; exact rng_of (by omega) (by omega), rng_of (by omega) (by omega), by rw [e14, ek]; exact rng_of (by omega) (by omega), by rw [e14, ek]; exact rng_of (by omega) (by omega), ?_⟩⟩
    rw [e14, ek]
    refine next (_, _) ⟨by omega, gRg_A (gRg_A hg (rng_of (by omega) (by omega))) (rng_of (by omega) (by omega)), (ho.put1 _ _).put2 _ _, Or.inr ⟨by omega, ?_⟩, fun j j0 j1 => ?_⟩
    · show gMn _ (i - 1 + 1) x2 (min le ((s.2 14 i + s.2 k1 i) + x3 * i))
      rw [show i - 1 + 1 = i by omega]
      exact hmn
    · show (gpA (gpA t 15 i _) 16 i _).2 15 j = _ ∧ gMn _ _ _ ((gpA (gpA t 15 i _) 16 i _).2 16 j)
      by_cases e : j = i
      · subst e
        refine ⟨?_, ?_⟩
        · rw [gpA_nk (by decide), gpA_eq]
        · rw [gpA_eq]; exact hmn
      · refine ⟨?_, ?_⟩
        · rw [gpA_nk (by decide), gpA_ni e]; exact (hz j (by omega) j1).1
        · rw [gpA_ni e, gpA_nk (by decide)]; exact (hz j (by omega) j1).2
  · intro ⟨t, le⟩ ⟨hin, hg, ho, hle, hz⟩
    dsimp only at hg ho hle hz ⊢
    exact bk_X0_splitByLength_7 hX hE t hg k1 x3 le (-1) p1 ⟨rng_of (by omega) (by omega), fun _ => ⟨ho, fun j j0 j1 => hz j (by omega) j1⟩, fun h => by omega⟩
set_option maxRecDepth 100000 in
set_option maxHeartbeats 4000000 in
theorem bk_X0_findLeast_0 {X : gX} {G : gG} (hX : gOk X G cX0_findLeast 8 RX0 (some .int) 2) {Q : Int → gS → Prop} (hE : gEnd X G (gPi (fun v s' => Q v s' ∧ gRg s'))) (s : gS) (hs : gRg s) (x1 : Int) (x2 : Int) (x3 : Int)  (h : (0 ≤ x1 ∧ x1 < 121) ∧ gWL X G s 28 [(0, gR G 4), (2, vi x2), (3, vi x3), (5, vi ((s.1 3 2) * x2)), (6, vi ((s.2 15 x1) + (s.1 3 3))), (7, vi (x1 + 1))] []) : gWL X G s 0 [(0, gR G 4), (1, vi x1), (2, vi x2), (3, vi x3), (4, gR G 3)] [] := by
  refine g_aload hX dX0_findLeast_0 4 rfl ?_
  refine g_getI hX sh_3 2 rfl fl_X0_71 dX0_findLeast_2 ?_
  refine g_iload_n hX dX0_findLeast_5 2 rfl ?_
  refine g_imul hX dX0_findLeast_6 ?_
  refine g_istore (loc' := [(5, vi ((s.1 3 2) * x2)), (0, gR G 4), (1, vi x1), (2, vi x2), (3, vi x3), (4, gR G 3)]) hX dX0_findLeast_7 (by decide) rfl ?_
  refine g_aload_n hX dX0_findLeast_9 1 rfl ?_
  refine g_getR hX sh_4 11 rfl fl_X0_48 dX0_findLeast_10 ?_
  refine g_iload_n hX dX0_findLeast_13 2 rfl ?_
  obtain ⟨h1, h⟩ := h
  refine g_iald hX sh_15 h1 (by decide) dX0_findLeast_14 ?_
  refine g_aload hX dX0_findLeast_15 5 rfl ?_
  refine g_getI hX sh_3 3 rfl fl_X0_115 dX0_findLeast_17 ?_
  refine g_iadd hX dX0_findLeast_20 ?_
  refine g_istore (loc' := [(6, vi ((s.2 15 x1) + (s.1 3 3))), (5, vi ((s.1 3 2) * x2)), (0, gR G 4), (1, vi x1), (2, vi x2), (3, vi x3), (4, gR G 3)]) hX dX0_findLeast_21 (by decide) rfl ?_
  refine g_iload_n hX dX0_findLeast_23 3 rfl ?_
  refine g_iconst hX dX0_findLeast_24 ?_
  refine g_iadd hX dX0_findLeast_25 ?_
  refine g_istore (loc' := [(7, vi (x1 + 1)), (6, vi ((s.2 15 x1) + (s.1 3 3))), (5, vi ((s.1 3 2) * x2)), (0, gR G 4), (1, vi x1), (2, vi x2), (3, vi x3), (4, gR G 3)]) hX dX0_findLeast_26 (by decide) rfl ?_
  exact g_sub [3, 5, 6, 2, 1, 0] rfl h
set_option maxRecDepth 100000 in
set_option maxHeartbeats 4000000 in
theorem bk_X0_findLeast_28 {X : gX} {G : gG} (hX : gOk X G cX0_findLeast 8 RX0 (some .int) 2) {Q : Int → gS → Prop} (hE : gEnd X G (gPi (fun v s' => Q v s' ∧ gRg s'))) (s : gS) (hs : gRg s) (x2 : Int) (x3 : Int) (x5 : Int) (x6 : Int) (x7 : Int)  (h : (rng x7) ∧ (rng x2) ∧ ((x2 ≤ x7 → (rng x3) ∧ ((x3 < x2 → Q (x6 + x5) s) ∧ (x2 ≤ x3 → (0 ≤ x2 ∧ x2 < 121) ∧ (rng (x6 + x5)) ∧ (rng ((s.2 16 x2) - x5)) ∧ Q (min (x6 + x5) ((s.2 16 x2) - x5)) s))) ∧ (x7 < x2 → (rng x3) ∧ ((x3 < x7 → ((x3 < x2 → Q (x6 + x5) s) ∧ (x2 ≤ x3 → (0 ≤ x2 ∧ x2 < 121) ∧ (rng (x6 + x5)) ∧ (rng ((s.2 16 x2) - x5)) ∧ Q (min (x6 + x5) ((s.2 16 x2) - x5)) s))) ∧ (x7 ≤ x3 → (0 ≤ x7 ∧ x7 < 121) ∧ (rng x6) ∧ gWL X G s 28 [(0, gR G 4), (2, vi x2), (3, vi x3), (5, vi x5), (6, vi (min x6 (s.2 15 x7))), (7, vi (x7 + 1))] []))))) : gWL X G s 28 [(0, gR G 4), (2, vi x2), (3, vi x3), (5, vi x5), (6, vi x6), (7, vi x7)] [] := by
  refine g_iload hX dX0_findLeast_28 5 rfl ?_
  refine g_iload_n hX dX0_findLeast_30 1 rfl ?_
  obtain ⟨h1, h⟩ := h
  obtain ⟨h2, h⟩ := h
  refine g_icge (tgt := 60) hX h1 h2 dX0_findLeast_31 (by decide) (fun c3 => ?_) (fun c3 => ?_)
  · replace h := h.1 c3
    refine g_iload hX dX0_findLeast_60 4 rfl ?_
    refine g_iload hX dX0_findLeast_62 3 rfl ?_
    refine g_iadd hX dX0_findLeast_64 ?_
    refine g_istore (loc' := [(6, vi (x6 + x5)), (0, gR G 4), (2, vi x2), (3, vi x3), (5, vi x5), (7, vi x7)]) hX dX0_findLeast_65 (by decide) rfl ?_
    refine g_iload_n hX dX0_findLeast_67 2 rfl ?_
    refine g_iload_n hX dX0_findLeast_68 3 rfl ?_
    obtain ⟨h4, h⟩ := h
    refine g_icgt (tgt := 89) hX h2 h4 dX0_findLeast_69 (by decide) (fun c5 => ?_) (fun c5 => ?_)
    · replace h := h.1 c5
      refine g_iload hX dX0_findLeast_89 0 rfl ?_
      exact g_iret hX hE dX0_findLeast_91 ⟨h, hs⟩
    · replace h := h.2 (Int.not_lt.mp c5)
      refine g_iload hX dX0_findLeast_72 0 rfl ?_
      refine g_aload_n hX dX0_findLeast_74 1 rfl ?_
      refine g_getR hX sh_4 12 rfl fl_X0_51 dX0_findLeast_75 ?_
      refine g_iload_n hX dX0_findLeast_78 2 rfl ?_
      obtain ⟨h6, h⟩ := h
      refine g_iald hX sh_16 h6 (by decide) dX0_findLeast_79 ?_
      refine g_iload hX dX0_findLeast_80 4 rfl ?_
      refine g_isub hX dX0_findLeast_82 ?_
      obtain ⟨h7, h⟩ := h
      obtain ⟨h8, h⟩ := h
      refine g_cSf (As := [vi (x6 + x5), vi ((s.2 16 x2) - x5)]) hX (fun l => c_J9_min_7cf53 l hX.inj s (x6 + x5) ((s.2 16 x2) - x5) hs h7 h8) cv_X0_110 (by decide) rfl (Nat.le_of_ble_eq_true rfl) dX0_findLeast_83 rfl (fun g9 => ?_)
      refine g_goto (tgt := 91) hX dX0_findLeast_86 (by decide) ?_
      exact g_iret hX hE dX0_findLeast_91 ⟨h, hs⟩
  · replace h := h.2 (Int.not_le.mp c3)
    refine g_iload hX dX0_findLeast_34 5 rfl ?_
    refine g_iload_n hX dX0_findLeast_36 2 rfl ?_
    obtain ⟨h10, h⟩ := h
    refine g_icgt (tgt := 60) hX h1 h10 dX0_findLeast_37 (by decide) (fun c11 => ?_) (fun c11 => ?_)
    · replace h := h.1 c11
      refine g_iload hX dX0_findLeast_60 4 rfl ?_
      refine g_iload hX dX0_findLeast_62 3 rfl ?_
      refine g_iadd hX dX0_findLeast_64 ?_
      refine g_istore (loc' := [(6, vi (x6 + x5)), (0, gR G 4), (2, vi x2), (3, vi x3), (5, vi x5), (7, vi x7)]) hX dX0_findLeast_65 (by decide) rfl ?_
      refine g_iload_n hX dX0_findLeast_67 2 rfl ?_
      refine g_iload_n hX dX0_findLeast_68 3 rfl ?_
      refine g_icgt (tgt := 89) hX h2 h10 dX0_findLeast_69 (by decide) (fun c12 => ?_) (fun c12 => ?_)
      · replace h := h.1 c12
        refine g_iload hX dX0_findLeast_89 0 rfl ?_
        exact g_iret hX hE dX0_findLeast_91 ⟨h, hs⟩
      · replace h := h.2 (Int.not_lt.mp c12)
        refine g_iload hX dX0_findLeast_72 0 rfl ?_
        refine g_aload_n hX dX0_findLeast_74 1 rfl ?_
        refine g_getR hX sh_4 12 rfl fl_X0_51 dX0_findLeast_75 ?_
        refine g_iload_n hX dX0_findLeast_78 2 rfl ?_
        obtain ⟨h13, h⟩ := h
        refine g_iald hX sh_16 h13 (by decide) dX0_findLeast_79 ?_
        refine g_iload hX dX0_findLeast_80 4 rfl ?_
        refine g_isub hX dX0_findLeast_82 ?_
        obtain ⟨h14, h⟩ := h
        obtain ⟨h15, h⟩ := h
        refine g_cSf (As := [vi (x6 + x5), vi ((s.2 16 x2) - x5)]) hX (fun l => c_J9_min_7cf53 l hX.inj s (x6 + x5) ((s.2 16 x2) - x5) hs h14 h15) cv_X0_110 (by decide) rfl (Nat.le_of_ble_eq_true rfl) dX0_findLeast_83 rfl (fun g16 => ?_)
        refine g_goto (tgt := 91) hX dX0_findLeast_86 (by decide) ?_
        exact g_iret hX hE dX0_findLeast_91 ⟨h, hs⟩
    · replace h := h.2 (Int.not_lt.mp c11)
      refine g_iload hX dX0_findLeast_40 4 rfl ?_
      refine g_aload_n hX dX0_findLeast_42 0 rfl ?_
      refine g_getR hX sh_4 11 rfl fl_X0_48 dX0_findLeast_43 ?_
      refine g_iload hX dX0_findLeast_46 5 rfl ?_
      obtain ⟨h17, h⟩ := h
      refine g_iald hX sh_15 h17 (by decide) dX0_findLeast_48 ?_
      obtain ⟨h18, h⟩ := h
      refine g_cSf (As := [vi x6, vi (s.2 15 x7)]) hX (fun l => c_J9_min_7cf53 l hX.inj s x6 (s.2 15 x7) hs h18 (hs.2 _ _)) cv_X0_110 (by decide) rfl (Nat.le_of_ble_eq_true rfl) dX0_findLeast_49 rfl (fun g19 => ?_)
      refine g_istore (loc' := [(6, vi (min x6 (s.2 15 x7))), (0, gR G 4), (2, vi x2), (3, vi x3), (5, vi x5), (7, vi x7)]) hX dX0_findLeast_52 (by decide) rfl ?_
      refine g_iinc (loc' := [(7, vi (x7 + 1)), (6, vi (min x6 (s.2 15 x7))), (0, gR G 4), (2, vi x2), (3, vi x3), (5, vi x5)]) hX dX0_findLeast_54 5 rfl (by decide) rfl ?_
      refine g_goto (tgt := 28) hX dX0_findLeast_57 (by decide) ?_
      exact g_sub [2, 3, 4, 5, 1, 0] rfl h
set_option maxRecDepth 100000 in
set_option maxHeartbeats 4000000 in
theorem c_X0_findLeast (l : Launch) {G : gG} (hG : gInj G) (s : gS) (x1 : Int) (x2 : Int) (x3 : Int) (_ : Int) (p0 : gRg s) (p1 : gMs s) (p2 : 0 ≤ x1 ∧ x1 < x2) (p3 : x2 ≤ x1 + 64) (p4 : x1 ≤ x3 ∧ x3 ≤ 120) (p5 : gTb s x3) : gMet l G yX0_findLeast cX0_findLeast 8 (some .int) 2 [gR G 4, vi x1, vi x2, vi x3, gR G 3] s (gPi (fun v s' => (gMn (fun j => (s.2 15 j + (s.1 3 2) * j) + ((s.1 3 2) * gabs (j - x2) + (if j = x1 then s.1 3 3 else 0))) x1 x3 v ∧ s' = s) ∧ gRg s')) := by
  refine gMet_of (plainFor_of_name (by decide)) hG (Nat.le_of_ble_eq_true rfl) (fun X hX hE => ?_)
  refine bk_X0_findLeast_0 hX hE s p0 x1 x2 x3  ?_
  obtain ⟨_, _, hst, hlk, _⟩ := p1
  have hW : ∀ j : Int, 0 ≤ j → j ≤ x3 → 0 ≤ s.2 15 j + s.1 3 2 * j ∧ s.2 15 j + s.1 3 2 * j ≤ 1000120000 := fun j h0 h1 => (p5 j h0 h1).1
  have hm : ∀ j : Int, 0 ≤ j → j ≤ 184 → 0 ≤ s.1 3 2 * j ∧ s.1 3 2 * j ≤ 184000 := fun j h0 h1 => gmul_bd (A := 1000) (B := 184) hst ⟨h0, h1⟩
  have hd := hm x2 (by omega) (by omega)
  -- the numbers that are compared
  have hlow : ∀ j : Int, x1 < j → j ≤ x2 → (s.2 15 j + s.1 3 2 * j) + (s.1 3 2 * gabs (j - x2) + (if j = x1 then s.1 3 3 else 0)) = s.2 15 j + s.1 3 2 * x2 := by
    intro j h1 h2
    have e : gabs (j - x2) = x2 - j := by unfold gabs; split <;> omega
    rw [e, if_neg (by omega), Int.mul_sub]; omega
  have hfst : (s.2 15 x1 + s.1 3 2 * x1) + (s.1 3 2 * gabs (x1 - x2) + (if x1 = x1 then s.1 3 3 else 0)) = s.2 15 x1 + s.1 3 3 + s.1 3 2 * x2 := by
    have e : gabs (x1 - x2) = x2 - x1 := by unfold gabs; split <;> omega
    rw [e, if_pos rfl, Int.mul_sub]; omega
  have hhigh : ∀ j : Int, x2 ≤ j → (s.2 15 j + s.1 3 2 * j) + (s.1 3 2 * gabs (j - x2) + (if j = x1 then s.1 3 3 else 0)) = ((s.2 15 j + s.1 3 2 * j) + s.1 3 2 * j) - s.1 3 2 * x2 := by
    intro j h1
    have e : gabs (j - x2) = j - x2 := by unfold gabs; split <;> omega
    rw [e, if_neg (by omega), Int.mul_sub]; omega
  have hT1 := hW x1 (by omega) (by omega)
  have hm1 := hm x1 (by omega) (by omega)
  -- behind the loop, with all ends before q looked at
  have hout : ∀ (q le : Int), x1 < q → (q = x2 ∧ q ≤ x3 + 1 ∨ q ≤ x2 ∧ q = x3 + 1) → gMn (fun j => (s.2 15 j + s.1 3 2 * j) + (s.1 3 2 * gabs (j - x2) + (if j = x1 then s.1 3 3 else 0))) x1 (q - 1) (le + s.1 3 2 * x2) → rng (le + s.1 3 2 * x2) → (x3 < x2 → gMn (fun j => (s.2 15 j + s.1 3 2 * j) + (s.1 3 2 * gabs (j - x2) + (if j = x1 then s.1 3 3 else 0))) x1 x3 (le + s.1 3 2 * x2) ∧ s = s) ∧ (x2 ≤ x3 → (0 ≤ x2 ∧ x2 < 121) ∧ rng (le + s.1 3 2 * x2) ∧ rng (s.2 16 x2 - s.1 3 2 * x2) ∧ gMn (fun j => (s.2 15 j + s.1 3 2 * j) + (s.1 3 2 * gabs (j - x2) + (if j = x1 then s.1 3 3 else 0))) x1 x3 (min (le + s.1 3 2 * x2) (s.2 16 x2 - s.1 3 2 * x2)) ∧ s = s) := by
    intro q le hq1 hq2 hmn hr
    refine ⟨fun h => ⟨?_, rfl⟩, fun h => ⟨by omega, hr, ?_, ?_, rfl⟩⟩
    · rw [show q - 1 = x3 by omega] at hmn; exact hmn
    · obtain ⟨⟨j, j1, j2, j3⟩, -⟩ := (p5 x2 (by omega) h).2
      have := hW j (by omega) j2
      have := hm j (by omega) (by omega)
      dsimp only at j3
      rw [j3]
      exact rng_of (by omega) (by omega)
    · have hen : gMn (fun j => (s.2 15 j + s.1 3 2 * j) + (s.1 3 2 * gabs (j - x2) + (if j = x1 then s.1 3 3 else 0))) x2 x3 (s.2 16 x2 - s.1 3 2 * x2) := by
        have h0 := (gMn.shift (g := fun j => (s.2 15 j + s.1 3 2 * j) + (s.1 3 2 * gabs (j - x2) + (if j = x1 then s.1 3 3 else 0))) 0 (-(s.1 3 2 * x2)) (p5 x2 (by omega) h).2 (fun t t1 t2 => by
          rw [Int.zero_add] at t1
          rw [hhigh t t1, Int.zero_add]; omega))
        rw [Int.sub_zero, Int.sub_zero] at h0
        exact h0
      have e : q - 1 + 1 = x2 := by omega
      have hen' : gMn (fun j => (s.2 15 j + s.1 3 2 * j) + (s.1 3 2 * gabs (j - x2) + (if j = x1 then s.1 3 3 else 0))) (q - 1 + 1) x3 (s.2 16 x2 - s.1 3 2 * x2) := by rw [e]; exact hen
      exact hmn.join hen' (by omega) (by omega)
  refine ⟨by omega, ?_⟩
  have hloop : ∀ (i le : Int), i ≤ min x2 (x3 + 1) → (x1 < i ∧ gMn (fun j => (s.2 15 j + s.1 3 2 * j) + (s.1 3 2 * gabs (j - x2) + (if j = x1 then s.1 3 3 else 0))) x1 (i - 1) (le + s.1 3 2 * x2)) → gWL X G s 28 [(0, gR G 4), (2, vi x2), (3, vi x3), (5, vi (s.1 3 2 * x2)), (6, vi le), (7, vi i)] [] := by
    refine gloop (α := Int) (hi := min x2 (x3 + 1)) _ _ ?_ ?_
    · intro i le hi ⟨h0, hmn⟩ next
      have hb := hW i (by omega) (by omega)
      have hbm := hm i (by omega) (by omega)
      have hle : rng le := by
        obtain ⟨⟨j, j1, j2, j3⟩, -⟩ := hmn
        by_cases e : j = x1
        · subst e; dsimp only at j3; rw [hfst] at j3; exact rng_of (by omega) (by omega)
        · dsimp only at j3; rw [hlow j (by omega) (by omega)] at j3
          have := hW j (by omega) (by omega)
          have := hm j (by omega) (by omega)
          exact rng_of (by omega) (by omega)
      refine bk_X0_findLeast_28 hX hE s p0 x2 x3 _ le i ⟨rng_of (by omega) (by omega), rng_of (by omega) (by omega), fun h => by omega, fun _ => ⟨rng_of (by omega) (by omega), fun h => by omega, fun _ => ⟨by omega, hle, next _ ⟨by omega, ?_⟩⟩⟩⟩
      have h2 := hmn.up (by omega)
      rw [show i - 1 + 1 = i by omega] at h2
      rw [hlow i (by omega) (by omega)] at h2
      rw [show i + 1 - 1 = i by omega, show min le (s.2 15 i) + s.1 3 2 * x2 = min (le + s.1 3 2 * x2) (s.2 15 i + s.1 3 2 * x2) by omega]
      exact h2
    · intro le ⟨h0, hmn⟩
      have hle : rng (le + s.1 3 2 * x2) := by
        obtain ⟨⟨j, j1, j2, j3⟩, -⟩ := hmn
        rw [j3]
        by_cases e : j = x1
        · subst e; dsimp only; rw [hfst]; exact rng_of (by omega) (by omega)
        · dsimp only; rw [hlow j (by omega) (by omega)]
          have := hW j (by omega) (by omega)
          have := hm j (by omega) (by omega)
          exact rng_of (by omega) (by omega)
      have ho := hout _ le h0 (by omega) hmn hle
      refine bk_X0_findLeast_28 hX hE s p0 x2 x3 _ le _ ⟨rng_of (by omega) (by omega), rng_of (by omega) (by omega), fun h => ⟨rng_of (by omega) (by omega), ho⟩, fun h => ⟨rng_of (by omega) (by omega), fun h2 => ho, fun h2 => by omega⟩⟩
  refine hloop (x1 + 1) _ (by omega) ⟨by omega, ?_⟩
  have h1 := gMn.one (fun j => (s.2 15 j + s.1 3 2 * j) + (s.1 3 2 * gabs (j - x2) + (if j = x1 then s.1 3 3 else 0))) x1
  rw [hfst] at h1
  rw [show x1 + 1 - 1 = x1 by omega]
  exact h1

