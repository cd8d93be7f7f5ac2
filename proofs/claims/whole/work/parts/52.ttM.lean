theorem fl_X8_84 : gFL RX8 84 8 27 := ⟨RX8, TX8, 34, tyX8, rfl, by decide, inG_X8, (gm_3 65 rfl rfl), tyX8_ok, nmX8, fun h => absurd h (by decide)⟩
theorem fl_X8_87 : gFL RX8 87 8 28 := ⟨RX8, TX8, 34, tyX8, rfl, by decide, inG_X8, (gm_3 66 rfl rfl), tyX8_ok, nmX8, fun _ => rfl⟩
theorem fl_X8_90 : gFL RX8 90 8 30 := ⟨RX8, TX8, 34, tyX8, rfl, by decide, inG_X8, (gm_3 68 rfl rfl), tyX8_ok, nmX8, fun h => absurd h (by decide)⟩
theorem fl_X8_93 : gFL RX8 93 8 31 := ⟨RX8, TX8, 34, tyX8, rfl, by decide, inG_X8, (gm_3 69 rfl rfl), tyX8_ok, nmX8, fun h => absurd h (by decide)⟩
theorem fl_X8_96 : gFL RX8 96 8 32 := ⟨RX8, TX8, 34, tyX8, rfl, by decide, inG_X8, (gm_3 70 rfl rfl), tyX8_ok, nmX8, fun h => absurd h (by decide)⟩
theorem fl_X8_175 : gFL RX8 175 8 26 := ⟨RX8, TX8, 34, tyX8, rfl, by decide, inG_X8, (gm_3 64 rfl rfl), tyX8_ok, nmX8, fun _ => rfl⟩
theorem fl_X8_181 : gFL RX8 181 8 29 := ⟨RX8, TX8, 34, tyX8, rfl, by decide, inG_X8, (gm_3 67 rfl rfl), tyX8_ok, nmX8, fun _ => rfl⟩
theorem cv_X8_178 : gCV RX8 178 yX8_mayBe cX8_mayBe 5 (some .boolean) 2 8 := ⟨TX8, 34, rfl, (gm_4 51 rfl rfl), (gm_4 53 rfl rfl), (gm_s 30 rfl rfl), (gm_1 9 rfl rfl), (gm_4 54 rfl rfl), ⟨by decide, by decide, by decide +kernel⟩, by decide⟩
theorem cv_X8_184 : gCV RX8 184 yX8_stand cX8_stand 5 (some .boolean) 1 8 := ⟨TX8, 34, rfl, (gm_4 47 rfl rfl), (gm_4 49 rfl rfl), (gm_s 29 rfl rfl), (gm_1 9 rfl rfl), (gm_4 50 rfl rfl), ⟨by decide, by decide, by decide +kernel⟩, by decide⟩
/-! ===== the reference's timetable ===== -/
def mcl (s : gS) (p q : Int) : Prop := ¬ s.2 433 ((12 * p) + q) = 0
def mmay (s : gS) (p h v : Int) : Prop := (v = 0 ∨ v = 1) ∧ (v = 1 ↔ ((∀ q : Int, 0 ≤ q → q < p → s.2 432 q = h → ¬ mcl s p q) ∧ gcnt (s.2 432) h p < s.1 400 28))
def mstood (s t : gS) (h v : Int) : Prop := goff s t 432 ∧ (v = 0 ∨ v = 1) ∧ (v = 1 → glex (mcl s) (s.1 400 28) h (s.1 400 26) 0 (t.2 432)) ∧ (v = 0 → ∀ g : Int → Int, gnone (mcl s) (s.1 400 28) h (s.1 400 26) 0 g)
def mMt (s : gS) (d p q : Int) : Prop := s.2 428 p = s.2 428 q ∨ ¬ gand (gsingM s (s.2 428 p) d) (gsingM s (s.2 428 q) d) = 0
def mhours (s t : gS) (d v : Int) : Prop := (∀ (k : Int) (j : Nat), ¬ (k = 400 ∧ j = 29) → t.1 k j = s.1 k j) ∧ t.1 400 29 = s.1 400 26 ∧ (∀ k' : Int, k' ≠ 431 → k' ≠ 432 → k' ≠ 433 → t.2 k' = s.2 k') ∧ gbest (mMt s d) (s.1 400 28) (s.1 400 26) v (t.2 431)
set_option maxRecDepth 100000 in
set_option maxHeartbeats 4000000 in
theorem bk_X8_perform_0 {X : gX} {G : gG} (hX : gOk X G cX8_perform 2 RX8 (some .int) 2) {Q : Int → gS → Prop} (hE : gEnd X G (gPi (fun v s' => Q v s' ∧ gRg s'))) (s : gS) (hs : gRg s) (x1 : Int)  (h : (rng x1) ∧ ((¬ (0 ≤ x1 ∧ x1 ≤ 9) → Q (-1) s) ∧ (0 ≤ x1 ∧ x1 ≤ 9 → ((¬ (s.1 400 26) = 12 → (0 ≤ (s.1 400 26) ∧ (s.1 400 26) < 12) ∧ (rng ((s.1 400 26) + 1)) ∧ Q (((s.1 400 26) + 1) - 1) (gpI (gpA s 428 (s.1 400 26) x1) 400 26 ((s.1 400 26) + 1))) ∧ ((s.1 400 26) = 12 → Q (-1) s))))) : gWL X G s 0 [(0, gR G 400), (1, vi x1)] [] := by
  refine g_iload_n hX dX8_perform_0 1 rfl ?_
  refine g_iconst hX dX8_perform_1 ?_
  refine g_bipush hX dX8_perform_2 rfl ?_
  obtain ⟨h1, h⟩ := h
  refine g_cSf (As := [vi x1, vi 0, vi 9]) hX (fun l => c_X8_isIn l hX.inj s x1 0 9 hs h1 (by unfold rng; omega) (by unfold rng; omega)) cv_X8_102 (by decide) rfl (Nat.le_of_ble_eq_true rfl) dX8_perform_4 rfl (fun g2 => ?_)
  refine g_ifeq (tgt := 19) hX (gb_rng _) dX8_perform_7 (by decide) (fun c3 => ?_) (fun c3 => ?_)
  · replace h := h.1 (gb_eq0.mp c3)
    refine g_iconst hX dX8_perform_19 ?_
    exact g_iret hX hE dX8_perform_20 ⟨h, hs⟩
  · replace h := h.2 (gb_n0.mp c3)
    refine g_aload_n hX dX8_perform_10 0 rfl ?_
    refine g_getI hX sh_400 26 rfl fl_X8_175 dX8_perform_11 ?_
    refine g_bipush hX dX8_perform_14 rfl ?_
    refine g_icne (tgt := 21) hX (hs.1 _ _) (by unfold rng; omega) dX8_perform_16 (by decide) (fun c4 => ?_) (fun c4 => ?_)
    · replace h := h.1 c4
      refine g_aload_n hX dX8_perform_21 0 rfl ?_
      refine g_getR hX sh_400 27 rfl fl_X8_84 dX8_perform_22 ?_
      refine g_aload_n hX dX8_perform_25 0 rfl ?_
      refine g_getI hX sh_400 26 rfl fl_X8_175 dX8_perform_26 ?_
      refine g_iload_n hX dX8_perform_29 1 rfl ?_
      obtain ⟨h5, h⟩ := h
      refine g_iast hX sh_428 h5 (by decide) dX8_perform_30 ?_
      refine g_aload_n hX dX8_perform_31 0 rfl ?_
      refine g_dup hX rfl dX8_perform_32 ?_
      refine g_getI hX sh_400 26 rfl fl_X8_175 dX8_perform_33 ?_
      refine g_iconst hX dX8_perform_36 ?_
      refine g_iadd hX dX8_perform_37 ?_
      obtain ⟨h6, h⟩ := h
      refine g_putI hX sh_400 26 rfl fl_X8_175 (fun _ _ _ e => by cases e; rfl) dX8_perform_38 ?_
      refine g_aload_n hX dX8_perform_41 0 rfl ?_
      refine g_getI hX sh_400 26 rfl fl_X8_175 dX8_perform_42 ?_
      refine g_top gpI_eq ?_
      refine g_iconst hX dX8_perform_45 ?_
      refine g_isub hX dX8_perform_46 ?_
      exact g_iret hX hE dX8_perform_47 ⟨h, (gRg_I (gRg_A hs h1) h6)⟩
    · replace h := h.2 (gnn c4)
      refine g_iconst hX dX8_perform_19 ?_
      exact g_iret hX hE dX8_perform_20 ⟨h, hs⟩
set_option maxRecDepth 100000 in
set_option maxHeartbeats 4000000 in
theorem c_X8_perform (l : Launch) {G : gG} (hG : gInj G) (s : gS) (x1 : Int) (p0 : gRg s) (p1 : rng x1) (p2 : 0 ≤ (s.1 400 26) ∧ (s.1 400 26) ≤ 12) : gMet l G yX8_perform cX8_perform 2 (some .int) 2 [gR G 400, vi x1] s (gPi (fun v s' => (if (0 ≤ x1 ∧ x1 ≤ 9) ∧ s.1 400 26 < 12 then v = s.1 400 26 ∧ s' = gpI (gpA s 428 (s.1 400 26) x1) 400 26 ((s.1 400 26) + 1) else v = -1 ∧ s' = s) ∧ gRg s')) := by
  refine gMet_of (plainFor_of_name (by decide)) hG (Nat.le_of_ble_eq_true rfl) (fun X hX hE => ?_)
  refine bk_X8_perform_0 hX hE s p0 x1  ?_
  refine ⟨p1, fun h => ?_, fun h => ⟨fun h2 => ⟨by omega, rng_of (by omega) (by omega), ?_⟩, fun h2 => ?_⟩⟩
  · rw [if_neg (by omega)]; exact ⟨rfl, rfl⟩
  · rw [if_pos (by omega)]; exact ⟨by omega, rfl⟩
  · rw [if_neg (by omega)]; exact ⟨rfl, rfl⟩
set_option maxRecDepth 100000 in
set_option maxHeartbeats 4000000 in
theorem bk_X8_clear_0 {X : gX} {G : gG} (hX : gOk X G cX8_clear 2 RX8 (some .int) 1) {Q : Int → gS → Prop} (hE : gEnd X G (gPi (fun v s' => Q v s' ∧ gRg s'))) (s : gS) (hs : gRg s)   (h : Q (s.1 400 26) (gpI s 400 26 0)) : gWL X G s 0 [(0, gR G 400)] [] := by
  refine g_aload_n hX dX8_clear_0 0 rfl ?_
  refine g_getI hX sh_400 26 rfl fl_X8_175 dX8_clear_1 ?_
  refine g_istore_n (loc' := [(1, vi (s.1 400 26)), (0, gR G 400)]) hX dX8_clear_4 (by decide) rfl ?_
  refine g_aload_n hX dX8_clear_5 1 rfl ?_
  refine g_iconst hX dX8_clear_6 ?_
  refine g_putI hX sh_400 26 rfl fl_X8_175 (fun _ _ _ e => by cases e; rfl) dX8_clear_7 ?_
  refine g_iload_n hX dX8_clear_10 0 rfl ?_
  exact g_iret hX hE dX8_clear_11 ⟨h, (gRg_I hs (by unfold rng; omega))⟩
set_option maxRecDepth 100000 in
set_option maxHeartbeats 4000000 in
theorem c_X8_clear (l : Launch) {G : gG} (hG : gInj G) (s : gS)  (p0 : gRg s) : gMet l G yX8_clear cX8_clear 2 (some .int) 1 [gR G 400] s (gPi (fun v s' => (v = s.1 400 26 ∧ s' = gpI s 400 26 0) ∧ gRg s')) := by
  refine gMet_of (plainFor_of_name (by decide)) hG (Nat.le_of_ble_eq_true rfl) (fun X hX hE => ?_)
  refine bk_X8_clear_0 hX hE s p0   ?_
  exact ⟨rfl, rfl⟩
set_option maxRecDepth 100000 in
set_option maxHeartbeats 4000000 in
theorem bk_X8_halls_0 {X : gX} {G : gG} (hX : gOk X G cX8_halls 3 RX8 (some .int) 2) {Q : Int → gS → Prop} (hE : gEnd X G (gPi (fun v s' => Q v s' ∧ gRg s'))) (s : gS) (hs : gRg s) (x1 : Int)  (h : (rng x1) ∧ ((1 ≤ x1 ∧ x1 ≤ 4 → Q (s.1 400 28) (gpI s 400 28 x1)) ∧ (¬ (1 ≤ x1 ∧ x1 ≤ 4) → Q (-1) s))) : gWL X G s 0 [(0, gR G 400), (1, vi x1)] [] := by
  refine g_iload_n hX dX8_halls_0 1 rfl ?_
  refine g_iconst hX dX8_halls_1 ?_
  refine g_iconst hX dX8_halls_2 ?_
  obtain ⟨h1, h⟩ := h
  refine g_cSf (As := [vi x1, vi 1, vi 4]) hX (fun l => c_X8_isIn l hX.inj s x1 1 4 hs h1 (by unfold rng; omega) (by unfold rng; omega)) cv_X8_102 (by decide) rfl (Nat.le_of_ble_eq_true rfl) dX8_halls_3 rfl (fun g2 => ?_)
  refine g_ifne (tgt := 11) hX (gb_rng _) dX8_halls_6 (by decide) (fun c3 => ?_) (fun c3 => ?_)
  · replace h := h.1 (gb_n0.mp c3)
    refine g_aload_n hX dX8_halls_11 0 rfl ?_
    refine g_getI hX sh_400 28 rfl fl_X8_87 dX8_halls_12 ?_
    refine g_istore_n (loc' := [(2, vi (s.1 400 28)), (0, gR G 400), (1, vi x1)]) hX dX8_halls_15 (by decide) rfl ?_
    refine g_aload_n hX dX8_halls_16 1 rfl ?_
    refine g_iload_n hX dX8_halls_17 2 rfl ?_
    refine g_putI hX sh_400 28 rfl fl_X8_87 (fun _ _ _ e => by cases e; rfl) dX8_halls_18 ?_
    refine g_iload_n hX dX8_halls_21 0 rfl ?_
    exact g_iret hX hE dX8_halls_22 ⟨h, (gRg_I hs h1)⟩
  · replace h := h.2 (gb_eq0.mp (gnn c3))
    refine g_iconst hX dX8_halls_9 ?_
    exact g_iret hX hE dX8_halls_10 ⟨h, hs⟩
set_option maxRecDepth 100000 in
set_option maxHeartbeats 4000000 in
theorem c_X8_halls (l : Launch) {G : gG} (hG : gInj G) (s : gS) (x1 : Int) (p0 : gRg s) (p1 : rng x1) : gMet l G yX8_halls cX8_halls 3 (some .int) 2 [gR G 400, vi x1] s (gPi (fun v s' => (if (1 ≤ x1 ∧ x1 ≤ 4) then v = s.1 400 28 ∧ s' = gpI s 400 28 x1 else v = -1 ∧ s' = s) ∧ gRg s')) := by
  refine gMet_of (plainFor_of_name (by decide)) hG (Nat.le_of_ble_eq_true rfl) (fun X hX hE => ?_)
  refine bk_X8_halls_0 hX hE s p0 x1  ?_
  refine ⟨p1, fun h => ?_, fun h => ?_⟩
  · rw [if_pos h]; exact ⟨rfl, rfl⟩
  · rw [if_neg h]; exact ⟨rfl, rfl⟩
set_option maxRecDepth 100000 in
set_option maxHeartbeats 4000000 in
theorem bk_X8_hour_0 {X : gX} {G : gG} (hX : gOk X G cX8_hour 2 RX8 (some .int) 1) {Q : Int → gS → Prop} (hE : gEnd X G (gPi (fun v s' => Q v s' ∧ gRg s'))) (s : gS) (hs : gRg s) (x1 : Int)  (h : (rng x1) ∧ ((x1 < 0 → Q (-1) s) ∧ (0 ≤ x1 → (((s.1 400 29) ≤ x1 → Q (-1) s) ∧ (x1 < (s.1 400 29) → (0 ≤ x1 ∧ x1 < 12) ∧ Q (s.2 431 x1) s))))) : gWL X G s 0 [(0, gR G 400), (1, vi x1)] [] := by
  refine g_iload_n hX dX8_hour_0 1 rfl ?_
  obtain ⟨h1, h⟩ := h
  refine g_iflt (tgt := 21) hX h1 dX8_hour_1 (by decide) (fun c2 => ?_) (fun c2 => ?_)
  · replace h := h.1 c2
    refine g_iconst hX dX8_hour_21 ?_
    exact g_iret hX hE dX8_hour_22 ⟨h, hs⟩
  · replace h := h.2 (Int.not_lt.mp c2)
    refine g_iload_n hX dX8_hour_4 1 rfl ?_
    refine g_aload_n hX dX8_hour_5 0 rfl ?_
    refine g_getI hX sh_400 29 rfl fl_X8_181 dX8_hour_6 ?_
    refine g_icge (tgt := 21) hX h1 (hs.1 _ _) dX8_hour_9 (by decide) (fun c3 => ?_) (fun c3 => ?_)
    · replace h := h.1 c3
      refine g_iconst hX dX8_hour_21 ?_
      exact g_iret hX hE dX8_hour_22 ⟨h, hs⟩
    · replace h := h.2 (Int.not_le.mp c3)
      refine g_aload_n hX dX8_hour_12 0 rfl ?_
      refine g_getR hX sh_400 30 rfl fl_X8_90 dX8_hour_13 ?_
      refine g_iload_n hX dX8_hour_16 1 rfl ?_
      obtain ⟨h4, h⟩ := h
      refine g_iald hX sh_431 h4 (by decide) dX8_hour_17 ?_
      refine g_goto (tgt := 22) hX dX8_hour_18 (by decide) ?_
      exact g_iret hX hE dX8_hour_22 ⟨h, hs⟩
set_option maxRecDepth 100000 in
set_option maxHeartbeats 4000000 in
theorem c_X8_hour (l : Launch) {G : gG} (hG : gInj G) (s : gS) (x1 : Int) (p0 : gRg s) (p1 : rng x1) (p2 : 0 ≤ (s.1 400 29) ∧ (s.1 400 29) ≤ 12) : gMet l G yX8_hour cX8_hour 2 (some .int) 1 [gR G 400, vi x1] s (gPi (fun v s' => (v = (if 0 ≤ x1 ∧ x1 < s.1 400 29 then s.2 431 x1 else -1) ∧ s' = s) ∧ gRg s')) := by
  refine gMet_of (plainFor_of_name (by decide)) hG (Nat.le_of_ble_eq_true rfl) (fun X hX hE => ?_)
  refine bk_X8_hour_0 hX hE s p0 x1  ?_
  refine ⟨p1, fun h => ⟨by rw [if_neg (by omega)], rfl⟩, fun h => ⟨fun h2 => ⟨by rw [if_neg (by omega)], rfl⟩, fun h2 => ⟨by omega, by rw [if_pos ⟨h, h2⟩], rfl⟩⟩⟩
set_option maxRecDepth 100000 in
set_option maxHeartbeats 4000000 in
theorem bk_X8_mayBe_0 {X : gX} {G : gG} (hX : gOk X G cX8_mayBe 5 RX8 (some .boolean) 1) {Q : Int → gS → Prop} (hE : gEnd X G (gPi (fun v s' => Q v s' ∧ gRg s'))) (s : gS) (hs : gRg s) (x1 : Int) (x2 : Int)  (h : gWL X G s 5 [(0, gR G 400), (1, vi x1), (2, vi x2), (3, vi 0), (4, vi 0)] []) : gWL X G s 0 [(0, gR G 400), (1, vi x1), (2, vi x2)] [] := by
  refine g_iconst hX dX8_mayBe_0 ?_
  refine g_istore_n (loc' := [(3, vi 0), (0, gR G 400), (1, vi x1), (2, vi x2)]) hX dX8_mayBe_1 (by decide) rfl ?_
  refine g_iconst hX dX8_mayBe_2 ?_
  refine g_istore (loc' := [(4, vi 0), (3, vi 0), (0, gR G 400), (1, vi x1), (2, vi x2)]) hX dX8_mayBe_3 (by decide) rfl ?_
  exact g_sub [2, 3, 4, 1, 0] rfl h
set_option maxRecDepth 100000 in
set_option maxHeartbeats 4000000 in
theorem bk_X8_mayBe_5 {X : gX} {G : gG} (hX : gOk X G cX8_mayBe 5 RX8 (some .boolean) 1) {Q : Int → gS → Prop} (hE : gEnd X G (gPi (fun v s' => Q v s' ∧ gRg s'))) (s : gS) (hs : gRg s) (x1 : Int) (x2 : Int) (x3 : Int) (x4 : Int)  (h : (rng x4) ∧ (rng x1) ∧ ((x1 ≤ x4 → (rng x3) ∧ (((s.1 400 28) ≤ x3 → Q 0 s) ∧ (x3 < (s.1 400 28) → Q 1 s))) ∧ (x4 < x1 → (0 ≤ x4 ∧ x4 < 12) ∧ (rng x2) ∧ (((s.2 432 x4) = x2 → (0 ≤ ((12 * x1) + x4) ∧ ((12 * x1) + x4) < 144) ∧ (((s.2 433 ((12 * x1) + x4)) = 0 → gWL X G s 5 [(0, gR G 400), (1, vi x1), (2, vi x2), (3, vi (x3 + 1)), (4, vi (x4 + 1))] []) ∧ (¬ ((s.2 433 ((12 * x1) + x4)) = 0) → Q 0 s))) ∧ (¬ ((s.2 432 x4) = x2) → gWL X G s 5 [(0, gR G 400), (1, vi x1), (2, vi x2), (3, vi x3), (4, vi (x4 + 1))] []))))) : gWL X G s 5 [(0, gR G 400), (1, vi x1), (2, vi x2), (3, vi x3), (4, vi x4)] [] := by
  refine g_iload hX dX8_mayBe_5 4 rfl ?_
  refine g_iload_n hX dX8_mayBe_7 1 rfl ?_
  obtain ⟨h1, h⟩ := h
  obtain ⟨h2, h⟩ := h
  refine g_icge (tgt := 51) hX h1 h2 dX8_mayBe_8 (by decide) (fun c3 => ?_) (fun c3 => ?_)
  · replace h := h.1 c3
    refine g_iload_n hX dX8_mayBe_51 3 rfl ?_
    refine g_aload_n hX dX8_mayBe_52 0 rfl ?_
    refine g_getI hX sh_400 28 rfl fl_X8_87 dX8_mayBe_53 ?_
    obtain ⟨h4, h⟩ := h
    refine g_icge (tgt := 63) hX h4 (hs.1 _ _) dX8_mayBe_56 (by decide) (fun c5 => ?_) (fun c5 => ?_)
    · replace h := h.1 c5
      refine g_iconst hX dX8_mayBe_63 ?_
      exact g_zret hX hE (Or.inl rfl) dX8_mayBe_64 ⟨h, hs⟩
    · replace h := h.2 (Int.not_le.mp c5)
      refine g_iconst hX dX8_mayBe_59 ?_
      refine g_goto (tgt := 64) hX dX8_mayBe_60 (by decide) ?_
      exact g_zret hX hE (Or.inr rfl) dX8_mayBe_64 ⟨h, hs⟩
  · replace h := h.2 (Int.not_le.mp c3)
    refine g_aload_n hX dX8_mayBe_11 0 rfl ?_
    refine g_getR hX sh_400 31 rfl fl_X8_93 dX8_mayBe_12 ?_
    refine g_iload hX dX8_mayBe_15 4 rfl ?_
    obtain ⟨h6, h⟩ := h
    refine g_iald hX sh_432 h6 (by decide) dX8_mayBe_17 ?_
    refine g_iload_n hX dX8_mayBe_18 2 rfl ?_
    obtain ⟨h7, h⟩ := h
    refine g_iceq (tgt := 25) hX (hs.2 _ _) h7 dX8_mayBe_19 (by decide) (fun c8 => ?_) (fun c8 => ?_)
    · replace h := h.1 c8
      refine g_iinc (loc' := [(3, vi (x3 + 1)), (0, gR G 400), (1, vi x1), (2, vi x2), (4, vi x4)]) hX dX8_mayBe_25 3 rfl (by decide) rfl ?_
      refine g_aload_n hX dX8_mayBe_28 1 rfl ?_
      refine g_getR hX sh_400 32 rfl fl_X8_96 dX8_mayBe_29 ?_
      refine g_bipush hX dX8_mayBe_32 rfl ?_
      refine g_iload_n hX dX8_mayBe_34 2 rfl ?_
      refine g_imul hX dX8_mayBe_35 ?_
      refine g_iload hX dX8_mayBe_36 4 rfl ?_
      refine g_iadd hX dX8_mayBe_38 ?_
      obtain ⟨h9, h⟩ := h
      refine g_zald hX sh_433 h9 (by decide) dX8_mayBe_39 ?_
      refine g_ifeq (tgt := 45) hX (hs.2 _ _) dX8_mayBe_40 (by decide) (fun c10 => ?_) (fun c10 => ?_)
      · replace h := h.1 c10
        refine g_iinc (loc' := [(4, vi (x4 + 1)), (3, vi (x3 + 1)), (0, gR G 400), (1, vi x1), (2, vi x2)]) hX dX8_mayBe_45 4 rfl (by decide) rfl ?_
        refine g_goto (tgt := 5) hX dX8_mayBe_48 (by decide) ?_
        exact g_sub [2, 3, 4, 1, 0] rfl h
      · replace h := h.2 c10
        refine g_iconst hX dX8_mayBe_43 ?_
        exact g_zret hX hE (Or.inl rfl) dX8_mayBe_44 ⟨h, hs⟩
    · replace h := h.2 c8
      refine g_goto (tgt := 45) hX dX8_mayBe_22 (by decide) ?_
      refine g_iinc (loc' := [(4, vi (x4 + 1)), (0, gR G 400), (1, vi x1), (2, vi x2), (3, vi x3)]) hX dX8_mayBe_45 4 rfl (by decide) rfl ?_
      refine g_goto (tgt := 5) hX dX8_mayBe_48 (by decide) ?_
      exact g_sub [1, 2, 3, 4, 0] rfl h
set_option maxRecDepth 100000 in
set_option maxHeartbeats 4000000 in
theorem c_X8_mayBe (l : Launch) {G : gG} (hG : gInj G) (s : gS) (x1 : Int) (x2 : Int) (p0 : gRg s) (p1 : rng x2) (p2 : 0 ≤ x1 ∧ x1 < 12) : gMet l G yX8_mayBe cX8_mayBe 5 (some .boolean) 1 [gR G 400, vi x1, vi x2] s (gPi (fun v s' => (mmay s x1 x2 v ∧ s' = s) ∧ gRg s')) := by
  refine gMet_of (plainFor_of_name (by decide)) hG (Nat.le_of_ble_eq_true rfl) (fun X hX hE => ?_)
  refine bk_X8_mayBe_0 hX hE s p0 x1 x2  ?_
  refine gloop (α := Int) (hi := x1) (fun q n => 0 ≤ q ∧ n = gcnt (s.2 432) x2 q ∧ (0 ≤ n ∧ n ≤ q) ∧ ∀ q' : Int, 0 ≤ q' → q' < q → s.2 432 q' = x2 → ¬ mcl s x1 q') (fun q n => gWL X G s 5 [(0, gR G 400), (1, vi x1), (2, vi x2), (3, vi n), (4, vi q)] []) ?_ ?_ 0 0 p2.1 ⟨by omega, rfl, by omega, fun q a b => by omega⟩
  · intro q n hq ⟨h0, hn, hb, hc⟩ next
    have e : gcnt (s.2 432) x2 (q + 1) = gcnt (s.2 432) x2 q + (if s.2 432 q = x2 then 1 else 0) := gcw_s _ _ _ h0
    refine bk_X8_mayBe_5 hX hE s p0 x1 x2 n q ⟨rng_of (by omega) (by omega), rng_of (by omega) (by omega), fun h => by omega, fun _ => ⟨by omega, p1, fun h => ⟨by omega, fun h2 => ?_, fun h2 => ?_⟩, fun h => ?_⟩⟩
    · refine next _ ⟨by omega, by rw [e, if_pos h, hn], by omega, fun q' a b c => ?_⟩
      by_cases eq : q' = q
      · rw [eq]; exact fun z => z h2
      · exact hc q' a (by omega) c
    · refine ⟨⟨Or.inl rfl, fun z => by omega, fun z => absurd ?_ (z.1 q h0 hq h)⟩, rfl⟩
      exact h2
    · refine next _ ⟨by omega, by rw [e, if_neg h, hn]; omega, by omega, fun q' a b c => ?_⟩
      by_cases eq : q' = q
      · rw [eq] at c; exact absurd c h
      · exact hc q' a (by omega) c
  · intro n ⟨h0, hn, hb, hc⟩
    refine bk_X8_mayBe_5 hX hE s p0 x1 x2 n x1 ⟨rng_of (by omega) (by omega), rng_of (by omega) (by omega), fun _ => ⟨rng_of (by omega) (by omega), fun h => ⟨⟨Or.inl rfl, fun z => by omega, fun z => ?_⟩, rfl⟩, fun h => ⟨⟨Or.inr rfl, fun z => ⟨hc, by omega⟩, fun z => rfl⟩, rfl⟩⟩, fun h => by omega⟩
    have := z.2; omega
set_option maxRecDepth 100000 in
set_option maxHeartbeats 4000000 in
theorem bk_X8_stand_0 {X : gX} {G : gG} (hX : gOk X G cX8_stand 5 RX8 (some .boolean) 2) {Q : Int → gS → Prop} (hE : gEnd X G (gPi (fun v s' => Q v s' ∧ gRg s'))) (s : gS) (hs : gRg s) (x1 : Int)  (h : gWL X G (gpA s 432 0 (-1)) 9 [(0, gR G 400), (1, vi x1), (2, vi 0)] []) : gWL X G s 0 [(0, gR G 400), (1, vi x1)] [] := by
  refine g_iconst hX dX8_stand_0 ?_
  refine g_istore_n (loc' := [(2, vi 0), (0, gR G 400), (1, vi x1)]) hX dX8_stand_1 (by decide) rfl ?_
  refine g_aload_n hX dX8_stand_2 1 rfl ?_
  refine g_getR hX sh_400 31 rfl fl_X8_93 dX8_stand_3 ?_
  refine g_iconst hX dX8_stand_6 ?_
  refine g_iconst hX dX8_stand_7 ?_
  refine g_iast hX sh_432 (by omega) (by decide) dX8_stand_8 ?_
  exact g_sub [1, 2, 0] rfl h
set_option maxRecDepth 100000 in
set_option maxHeartbeats 4000000 in
theorem bk_X8_stand_9 {X : gX} {G : gG} (hX : gOk X G cX8_stand 5 RX8 (some .boolean) 2) {Q : Int → gS → Prop} (hE : gEnd X G (gPi (fun v s' => Q v s' ∧ gRg s'))) (s : gS) (hs : gRg s) (x1 : Int) (x2 : Int)  (h : (rng x2) ∧ ((x2 < 0 → ((¬ x2 = (s.1 400 26) → Q 0 s) ∧ (x2 = (s.1 400 26) → Q 1 s))) ∧ (0 ≤ x2 → (((s.1 400 26) ≤ x2 → ((¬ x2 = (s.1 400 26) → Q 0 s) ∧ (x2 = (s.1 400 26) → Q 1 s))) ∧ (x2 < (s.1 400 26) → gWL X G s 26 [(0, gR G 400), (1, vi x1), (2, vi x2), (3, vi 0), (4, vi 0)] []))))) : gWL X G s 9 [(0, gR G 400), (1, vi x1), (2, vi x2)] [] := by
  refine g_iload_n hX dX8_stand_9 2 rfl ?_
  obtain ⟨h1, h⟩ := h
  refine g_iflt (tgt := 141) hX h1 dX8_stand_10 (by decide) (fun c2 => ?_) (fun c2 => ?_)
  · replace h := h.1 c2
    refine g_iload_n hX dX8_stand_141 2 rfl ?_
    refine g_aload_n hX dX8_stand_142 0 rfl ?_
    refine g_getI hX sh_400 26 rfl fl_X8_175 dX8_stand_143 ?_
    refine g_icne (tgt := 153) hX h1 (hs.1 _ _) dX8_stand_146 (by decide) (fun c3 => ?_) (fun c3 => ?_)
    · replace h := h.1 c3
      refine g_iconst hX dX8_stand_153 ?_
      exact g_zret hX hE (Or.inl rfl) dX8_stand_154 ⟨h, hs⟩
    · replace h := h.2 (gnn c3)
      refine g_iconst hX dX8_stand_149 ?_
      refine g_goto (tgt := 154) hX dX8_stand_150 (by decide) ?_
      exact g_zret hX hE (Or.inr rfl) dX8_stand_154 ⟨h, hs⟩
  · replace h := h.2 (Int.not_lt.mp c2)
    refine g_iload_n hX dX8_stand_13 2 rfl ?_
    refine g_aload_n hX dX8_stand_14 0 rfl ?_
    refine g_getI hX sh_400 26 rfl fl_X8_175 dX8_stand_15 ?_
    refine g_icge (tgt := 141) hX h1 (hs.1 _ _) dX8_stand_18 (by decide) (fun c4 => ?_) (fun c4 => ?_)
    · replace h := h.1 c4
      refine g_iload_n hX dX8_stand_141 2 rfl ?_
      refine g_aload_n hX dX8_stand_142 0 rfl ?_
      refine g_getI hX sh_400 26 rfl fl_X8_175 dX8_stand_143 ?_
      refine g_icne (tgt := 153) hX h1 (hs.1 _ _) dX8_stand_146 (by decide) (fun c5 => ?_) (fun c5 => ?_)
      · replace h := h.1 c5
        refine g_iconst hX dX8_stand_153 ?_
        exact g_zret hX hE (Or.inl rfl) dX8_stand_154 ⟨h, hs⟩
      · replace h := h.2 (gnn c5)
        refine g_iconst hX dX8_stand_149 ?_
        refine g_goto (tgt := 154) hX dX8_stand_150 (by decide) ?_
        exact g_zret hX hE (Or.inr rfl) dX8_stand_154 ⟨h, hs⟩
    · replace h := h.2 (Int.not_le.mp c4)
      refine g_iconst hX dX8_stand_21 ?_
      refine g_istore_n (loc' := [(3, vi 0), (0, gR G 400), (1, vi x1), (2, vi x2)]) hX dX8_stand_22 (by decide) rfl ?_
      refine g_iconst hX dX8_stand_23 ?_
      refine g_istore (loc' := [(4, vi 0), (3, vi 0), (0, gR G 400), (1, vi x1), (2, vi x2)]) hX dX8_stand_24 (by decide) rfl ?_
      exact g_sub [2, 3, 4, 1, 0] rfl h
set_option maxRecDepth 100000 in
set_option maxHeartbeats 4000000 in
theorem bk_X8_stand_26 {X : gX} {G : gG} (hX : gOk X G cX8_stand 5 RX8 (some .boolean) 2) {Q : Int → gS → Prop} (hE : gEnd X G (gPi (fun v s' => Q v s' ∧ gRg s'))) (s : gS) (hs : gRg s) (x1 : Int) (x2 : Int) (x3 : Int) (x4 : Int)  (h : (rng x4) ∧ (rng x2) ∧ ((x2 ≤ x4 → (rng x3) ∧ (rng (x1 - 1)) ∧ ((x3 ≤ (x1 - 1) → gWL X G s 70 [(0, gR G 400), (1, vi x1), (2, vi x2), (3, vi x3)] []) ∧ ((x1 - 1) < x3 → gWL X G s 70 [(0, gR G 400), (1, vi x1), (2, vi x2), (3, vi (x1 - 1))] []))) ∧ (x4 < x2 → (0 ≤ x4 ∧ x4 < 12) ∧ (rng x3) ∧ (((s.2 432 x4) < x3 → gWL X G s 26 [(0, gR G 400), (1, vi x1), (2, vi x2), (3, vi x3), (4, vi (x4 + 1))] []) ∧ (x3 ≤ (s.2 432 x4) → gWL X G s 26 [(0, gR G 400), (1, vi x1), (2, vi x2), (3, vi ((s.2 432 x4) + 1)), (4, vi (x4 + 1))] []))))) : gWL X G s 26 [(0, gR G 400), (1, vi x1), (2, vi x2), (3, vi x3), (4, vi x4)] [] := by
  refine g_iload hX dX8_stand_26 4 rfl ?_
  refine g_iload_n hX dX8_stand_28 2 rfl ?_
  obtain ⟨h1, h⟩ := h
  obtain ⟨h2, h⟩ := h
  refine g_icge (tgt := 59) hX h1 h2 dX8_stand_29 (by decide) (fun c3 => ?_) (fun c3 => ?_)
  · replace h := h.1 c3
    refine g_iload_n hX dX8_stand_59 3 rfl ?_
    refine g_iload_n hX dX8_stand_60 1 rfl ?_
    refine g_iconst hX dX8_stand_61 ?_
    refine g_isub hX dX8_stand_62 ?_
    obtain ⟨h4, h⟩ := h
    obtain ⟨h5, h⟩ := h
    refine g_icle (tgt := 70) hX h4 h5 dX8_stand_63 (by decide) (fun c6 => ?_) (fun c6 => ?_)
    · replace h := h.1 c6
      exact g_sub [0, 1, 2, 3] rfl h
    · replace h := h.2 (Int.not_le.mp c6)
      refine g_iload_n hX dX8_stand_66 1 rfl ?_
      refine g_iconst hX dX8_stand_67 ?_
      refine g_isub hX dX8_stand_68 ?_
      refine g_istore_n (loc' := [(3, vi (x1 - 1)), (0, gR G 400), (1, vi x1), (2, vi x2), (4, vi x4)]) hX dX8_stand_69 (by decide) rfl ?_
      exact g_sub [1, 2, 3, 0] rfl h
  · replace h := h.2 (Int.not_le.mp c3)
    refine g_aload_n hX dX8_stand_32 0 rfl ?_
    refine g_getR hX sh_400 31 rfl fl_X8_93 dX8_stand_33 ?_
    refine g_iload hX dX8_stand_36 4 rfl ?_
    obtain ⟨h7, h⟩ := h
    refine g_iald hX sh_432 h7 (by decide) dX8_stand_38 ?_
    refine g_iload_n hX dX8_stand_39 3 rfl ?_
    obtain ⟨h8, h⟩ := h
    refine g_iclt (tgt := 53) hX (hs.2 _ _) h8 dX8_stand_40 (by decide) (fun c9 => ?_) (fun c9 => ?_)
    · replace h := h.1 c9
      refine g_iinc (loc' := [(4, vi (x4 + 1)), (0, gR G 400), (1, vi x1), (2, vi x2), (3, vi x3)]) hX dX8_stand_53 4 rfl (by decide) rfl ?_
      refine g_goto (tgt := 26) hX dX8_stand_56 (by decide) ?_
      exact g_sub [1, 2, 3, 4, 0] rfl h
    · replace h := h.2 (Int.not_lt.mp c9)
      refine g_aload_n hX dX8_stand_43 0 rfl ?_
      refine g_getR hX sh_400 31 rfl fl_X8_93 dX8_stand_44 ?_
      refine g_iload hX dX8_stand_47 4 rfl ?_
      refine g_iald hX sh_432 h7 (by decide) dX8_stand_49 ?_
      refine g_iconst hX dX8_stand_50 ?_
      refine g_iadd hX dX8_stand_51 ?_
      refine g_istore_n (loc' := [(3, vi ((s.2 432 x4) + 1)), (0, gR G 400), (1, vi x1), (2, vi x2), (4, vi x4)]) hX dX8_stand_52 (by decide) rfl ?_
      refine g_iinc (loc' := [(4, vi (x4 + 1)), (3, vi ((s.2 432 x4) + 1)), (0, gR G 400), (1, vi x1), (2, vi x2)]) hX dX8_stand_53 4 rfl (by decide) rfl ?_
      refine g_goto (tgt := 26) hX dX8_stand_56 (by decide) ?_
      exact g_sub [2, 3, 4, 1, 0] rfl h
set_option maxRecDepth 100000 in
set_option maxHeartbeats 4000000 in
theorem bk_X8_stand_70 {X : gX} {G : gG} (hX : gOk X G cX8_stand 5 RX8 (some .boolean) 2) {Q : Int → gS → Prop} (hE : gEnd X G (gPi (fun v s' => Q v s' ∧ gRg s'))) (s : gS) (hs : gRg s) (x1 : Int) (x2 : Int) (x3 : Int)  (h : (0 ≤ x2 ∧ x2 < 12) ∧ (rng ((s.2 432 x2) + 1)) ∧ (rng x3) ∧ ((x3 < ((s.2 432 x2) + 1) → ((((s.2 432 x2) + 1) ≤ x3 → (rng (x2 + 1)) ∧ (((s.1 400 26) ≤ (x2 + 1) → gWL X G (gpA s 432 x2 ((s.2 432 x2) + 1)) 9 [(0, gR G 400), (1, vi x1), (2, vi (x2 + 1))] []) ∧ ((x2 + 1) < (s.1 400 26) → (0 ≤ (x2 + 1) ∧ (x2 + 1) < 12) ∧ gWL X G (gpA (gpA s 432 x2 ((s.2 432 x2) + 1)) 432 (x2 + 1) (-1)) 9 [(0, gR G 400), (1, vi x1), (2, vi (x2 + 1))] []))) ∧ (x3 < ((s.2 432 x2) + 1) → gWL X G (gpA s 432 x2 ((s.2 432 x2) + 1)) 9 [(0, gR G 400), (1, vi x1), (2, vi (x2 - 1))] []))) ∧ (((s.2 432 x2) + 1) ≤ x3 → (∀ (v11 : Int) (s9 : gS), ((mmay (gpA s 432 x2 ((s.2 432 x2) + 1)) x2 ((s.2 432 x2) + 1) v11 ∧ s9 = (gpA s 432 x2 ((s.2 432 x2) + 1))) ∧ gRg s9) → (rng v11) ∧ ((v11 = 0 → gWL X G s9 70 [(0, gR G 400), (1, vi x1), (2, vi x2), (3, vi x3)] []) ∧ (¬ (v11 = 0) → (((s9.2 432 x2) ≤ x3 → (rng (x2 + 1)) ∧ (((s9.1 400 26) ≤ (x2 + 1) → gWL X G s9 9 [(0, gR G 400), (1, vi x1), (2, vi (x2 + 1))] []) ∧ ((x2 + 1) < (s9.1 400 26) → (0 ≤ (x2 + 1) ∧ (x2 + 1) < 12) ∧ gWL X G (gpA s9 432 (x2 + 1) (-1)) 9 [(0, gR G 400), (1, vi x1), (2, vi (x2 + 1))] []))) ∧ (x3 < (s9.2 432 x2) → gWL X G s9 9 [(0, gR G 400), (1, vi x1), (2, vi (x2 - 1))] [])))))))) : gWL X G s 70 [(0, gR G 400), (1, vi x1), (2, vi x2), (3, vi x3)] [] := by
  refine g_aload_n hX dX8_stand_70 0 rfl ?_
  refine g_getR hX sh_400 31 rfl fl_X8_93 dX8_stand_71 ?_
  refine g_iload_n hX dX8_stand_74 2 rfl ?_
  refine g_dup2 hX rfl rfl dX8_stand_75 ?_
  obtain ⟨h1, h⟩ := h
  refine g_iald hX sh_432 h1 (by decide) dX8_stand_76 ?_
  refine g_iconst hX dX8_stand_77 ?_
  refine g_iadd hX dX8_stand_78 ?_
  obtain ⟨h2, h⟩ := h
  refine g_iast hX sh_432 h1 (by decide) dX8_stand_79 ?_
  refine g_aload_n hX dX8_stand_80 0 rfl ?_
  refine g_getR hX sh_400 31 rfl fl_X8_93 dX8_stand_81 ?_
  refine g_iload_n hX dX8_stand_84 2 rfl ?_
  refine g_iald hX sh_432 h1 (by decide) dX8_stand_85 ?_
  refine g_top gpA_eq ?_
  refine g_iload_n hX dX8_stand_86 3 rfl ?_
  obtain ⟨h3, h⟩ := h
  refine g_icgt (tgt := 104) hX h2 h3 dX8_stand_87 (by decide) (fun c4 => ?_) (fun c4 => ?_)
  · replace h := h.1 c4
    refine g_aload_n hX dX8_stand_104 0 rfl ?_
    refine g_getR hX sh_400 31 rfl fl_X8_93 dX8_stand_105 ?_
    refine g_iload_n hX dX8_stand_108 2 rfl ?_
    refine g_iald hX sh_432 h1 (by decide) dX8_stand_109 ?_
    refine g_top gpA_eq ?_
    refine g_iload_n hX dX8_stand_110 3 rfl ?_
    refine g_icle (tgt := 120) hX h2 h3 dX8_stand_111 (by decide) (fun c5 => ?_) (fun c5 => ?_)
    · replace h := h.1 c5
      refine g_iinc (loc' := [(2, vi (x2 + 1)), (0, gR G 400), (1, vi x1), (3, vi x3)]) hX dX8_stand_120 2 rfl (by decide) rfl ?_
      refine g_iload_n hX dX8_stand_123 0 rfl ?_
      refine g_aload_n hX dX8_stand_124 1 rfl ?_
      refine g_getI hX sh_400 26 rfl fl_X8_175 dX8_stand_125 ?_
      obtain ⟨h6, h⟩ := h
      refine g_icge (tgt := 138) hX h6 (hs.1 _ _) dX8_stand_128 (by decide) (fun c7 => ?_) (fun c7 => ?_)
      · replace h := h.1 c7
        refine g_goto (tgt := 9) hX dX8_stand_138 (by decide) ?_
        exact g_sub [1, 2, 0] rfl h
      · replace h := h.2 (Int.not_le.mp c7)
        refine g_aload_n hX dX8_stand_131 1 rfl ?_
        refine g_getR hX sh_400 31 rfl fl_X8_93 dX8_stand_132 ?_
        refine g_iload_n hX dX8_stand_135 0 rfl ?_
        refine g_iconst hX dX8_stand_136 ?_
        obtain ⟨h8, h⟩ := h
        refine g_iast hX sh_432 h8 (by decide) dX8_stand_137 ?_
        refine g_goto (tgt := 9) hX dX8_stand_138 (by decide) ?_
        exact g_sub [1, 2, 0] rfl h
    · replace h := h.2 (Int.not_le.mp c5)
      refine g_iinc (loc' := [(2, vi (x2 - 1)), (0, gR G 400), (1, vi x1), (3, vi x3)]) hX dX8_stand_114 2 rfl (by decide) rfl ?_
      refine g_goto (tgt := 9) hX dX8_stand_117 (by decide) ?_
      exact g_sub [1, 2, 0] rfl h
  · replace h := h.2 (Int.not_lt.mp c4)
    refine g_aload_n hX dX8_stand_90 0 rfl ?_
    refine g_iload_n hX dX8_stand_91 2 rfl ?_
    refine g_aload_n hX dX8_stand_92 0 rfl ?_
    refine g_getR hX sh_400 31 rfl fl_X8_93 dX8_stand_93 ?_
    refine g_iload_n hX dX8_stand_96 2 rfl ?_
    refine g_iald hX sh_432 h1 (by decide) dX8_stand_97 ?_
    refine g_top gpA_eq ?_
    refine g_cVr (As := [vi x2, vi ((s.2 432 x2) + 1)]) hX (fun l => c_X8_mayBe l hX.inj (gpA s 432 x2 ((s.2 432 x2) + 1)) x2 ((s.2 432 x2) + 1) (gRg_A hs h2) h2 h1) sh_400 cv_X8_178 (by decide) rfl (Nat.le_of_ble_eq_true rfl) dX8_stand_98 rfl (fun v11 s9 q10 => ?_)
    replace h := h v11 s9 q10
    have rs9 : gRg s9 := q10.2
    obtain ⟨h12, h⟩ := h
    refine g_ifeq (tgt := 70) hX h12 dX8_stand_101 (by decide) (fun c13 => ?_) (fun c13 => ?_)
    · replace h := h.1 c13
      exact h
    · replace h := h.2 c13
      refine g_aload_n hX dX8_stand_104 0 rfl ?_
      refine g_getR hX sh_400 31 rfl fl_X8_93 dX8_stand_105 ?_
      refine g_iload_n hX dX8_stand_108 2 rfl ?_
      refine g_iald hX sh_432 h1 (by decide) dX8_stand_109 ?_
      refine g_iload_n hX dX8_stand_110 3 rfl ?_
      refine g_icle (tgt := 120) hX (rs9.2 _ _) h3 dX8_stand_111 (by decide) (fun c14 => ?_) (fun c14 => ?_)
      · replace h := h.1 c14
        refine g_iinc (loc' := [(2, vi (x2 + 1)), (0, gR G 400), (1, vi x1), (3, vi x3)]) hX dX8_stand_120 2 rfl (by decide) rfl ?_
        refine g_iload_n hX dX8_stand_123 0 rfl ?_
        refine g_aload_n hX dX8_stand_124 1 rfl ?_
        refine g_getI hX sh_400 26 rfl fl_X8_175 dX8_stand_125 ?_
        obtain ⟨h15, h⟩ := h
        refine g_icge (tgt := 138) hX h15 (rs9.1 _ _) dX8_stand_128 (by decide) (fun c16 => ?_) (fun c16 => ?_)
        · replace h := h.1 c16
          refine g_goto (tgt := 9) hX dX8_stand_138 (by decide) ?_
          exact g_sub [1, 2, 0] rfl h
        · replace h := h.2 (Int.not_le.mp c16)
          refine g_aload_n hX dX8_stand_131 1 rfl ?_
          refine g_getR hX sh_400 31 rfl fl_X8_93 dX8_stand_132 ?_
          refine g_iload_n hX dX8_stand_135 0 rfl ?_
          refine g_iconst hX dX8_stand_136 ?_
          obtain ⟨h17, h⟩ := h
          refine g_iast hX sh_432 h17 (by decide) dX8_stand_137 ?_
          refine g_goto (tgt := 9) hX dX8_stand_138 (by decide) ?_
          exact g_sub [1, 2, 0] rfl h
      · replace h := h.2 (Int.not_le.mp c14)
        refine g_iinc (loc' := [(2, vi (x2 - 1)), (0, gR G 400), (1, vi x1), (3, vi x3)]) hX dX8_stand_114 2 rfl (by decide) rfl ?_
        refine g_goto (tgt := 9) hX dX8_stand_117 (by decide) ?_
        exact g_sub [1, 2, 0] rfl h
theorem mgo {X : gX} {G : gG} {nL : Nat} (hX : gOk X G cX8_stand nL RX8 (some .boolean) 2) {Q : Int → gS → Prop} (hE : gEnd X G (gPi (fun v s' => Q v s' ∧ gRg s'))) (hnL : nL = 5) (s : gS) (x1 : Int) (hN : 1 ≤ s.1 400 26 ∧ s.1 400 26 ≤ 12) (hx : 1 ≤ x1 ∧ x1 ≤ 12) : ∀ (d : Nat) (p : Int) (g0 : Int → Int), s.1 400 26 - p = d → 0 ≤ p → gval (mcl s) (s.1 400 28) x1 g0 p →
    (∀ u : gS, goff s u 432 → gRg u → gext g0 (u.2 432) p → glex (mcl s) (s.1 400 28) x1 (s.1 400 26) p (u.2 432) → gWL X G u 9 [(0, gR G 400), (1, vi x1), (2, vi (s.1 400 26))] []) →
    (∀ u : gS, goff s u 432 → gRg u → gext g0 (u.2 432) p → gnone (mcl s) (s.1 400 28) x1 (s.1 400 26) p g0 → gWL X G u 9 [(0, gR G 400), (1, vi x1), (2, vi (p - 1))] []) →
    ∀ t : gS, goff s t 432 → gRg t → gext g0 (t.2 432) p → (p < s.1 400 26 → -1 ≤ t.2 432 p ∧ t.2 432 p ≤ 12 ∧ ∀ g' : Int → Int, gval (mcl s) (s.1 400 28) x1 g' (s.1 400 26) → gext g0 g' p → t.2 432 p < g' p) → gWL X G t 9 [(0, gR G 400), (1, vi x1), (2, vi p)] [] := by
  subst hnL
  intro d
  induction d with
  | zero =>
    intro p g0 hd p0 gv succ fail t toff tr te _
    have e : p = s.1 400 26 := by omega
    subst e
    exact succ t toff tr te ⟨gval_congr te gv, fun g' _ h => Or.inl h⟩
  | succ d ih =>
    intro p g0 hd p0 gv succ fail
    have hp : p < s.1 400 26 := by omega
    have hop := gop_bd (g := g0) (N := p) (fun q a b => (gv q a b).2.1) p p0 (Int.le_refl _)
    have hopq := gop_bd (g := g0) (N := p) (fun q a b => (gv q a b).2.1)
    have step9 : ∀ t : gS, goff s t 432 → gRg t → gext g0 (t.2 432) p → (∀ m : Int, m = min (gop g0 p) (x1 - 1) → gWL X G t 70 [(0, gR G 400), (1, vi x1), (2, vi p), (3, vi m)] []) → gWL X G t 9 [(0, gR G 400), (1, vi x1), (2, vi p)] [] := by
      intro t toff tr te k
      refine bk_X8_stand_9 hX hE t tr x1 p ⟨rng_of (by omega) (by omega), fun h => by omega, fun _ => ⟨fun h => by rw [toff.1] at h; omega, fun _ => ?_⟩⟩
      refine gloop (α := Int) (hi := p) (fun q m => 0 ≤ q ∧ m = gop g0 q) (fun q m => gWL X G t 26 [(0, gR G 400), (1, vi x1), (2, vi p), (3, vi m), (4, vi q)] []) ?_ ?_ 0 0 p0 ⟨by omega, rfl⟩
      · intro q m hq ⟨q0, hm⟩ next
        have b := hopq q q0 (by omega)
        have e := te q q0 hq
        have es := gop_s g0 q0
        refine bk_X8_stand_26 hX hE t tr x1 p m q ⟨rng_of (by omega) (by omega), rng_of (by omega) (by omega), fun h => by omega, fun _ => ⟨by omega, rng_of (by omega) (by omega), fun h => next _ ⟨by omega, by omega⟩, fun h => next _ ⟨by omega, by omega⟩⟩⟩
      · intro m ⟨q0, hm⟩
        exact bk_X8_stand_26 hX hE t tr x1 p m p ⟨rng_of (by omega) (by omega), rng_of (by omega) (by omega), fun _ => ⟨rng_of (by omega) (by omega), rng_of (by omega) (by omega), fun h => k _ (by omega), fun h => k _ (by omega)⟩, fun h => by omega⟩
    have inner : ∀ (n : Nat) (t : gS), goff s t 432 → gRg t → gext g0 (t.2 432) p → (12 - t.2 432 p) ≤ n → -1 ≤ t.2 432 p ∧ t.2 432 p ≤ 12 → (∀ g' : Int → Int, gval (mcl s) (s.1 400 28) x1 g' (s.1 400 26) → gext g0 g' p → t.2 432 p < g' p) → ∀ m : Int, m = min (gop g0 p) (x1 - 1) → gWL X G t 70 [(0, gR G 400), (1, vi x1), (2, vi p), (3, vi m)] [] := by
      intro n
      induction n with
      | zero =>
        intro t toff tr te hn hb hg m hm
        refine bk_X8_stand_70 hX hE t tr x1 p m ⟨by omega, rng_of (by omega) (by omega), rng_of (by omega) (by omega), fun h => ⟨fun h2 => by omega, fun _ => ?_⟩, fun h => by omega⟩
        refine fail _ (toff.put _ _) (gRg_A tr (rng_of (by omega) (by omega))) (fun q a b => by rw [gpA_ni (by omega)]; exact te q a b) (fun g' gv' ge => ?_)
        have a := hg g' gv' ge
        have b := gv' p p0 hp
        have c := b.2.1
        rw [gop_congr p0 ge] at c
        have := b.2.2.1
        omega
      | succ n ihn =>
        intro t toff tr te hn hb hg m hm
        refine bk_X8_stand_70 hX hE t tr x1 p m ⟨by omega, rng_of (by omega) (by omega), rng_of (by omega) (by omega), fun h => ⟨fun h2 => by omega, fun _ => ?_⟩, fun h => ?_⟩
        · refine fail _ (toff.put _ _) (gRg_A tr (rng_of (by omega) (by omega))) (fun q a b => by rw [gpA_ni (by omega)]; exact te q a b) (fun g' gv' ge => ?_)
          have a := hg g' gv' ge
          have b := gv' p p0 hp
          have c := b.2.1
          rw [gop_congr p0 ge] at c
          have := b.2.2.1
          omega
        · have we : gext g0 ((gpA t 432 p (t.2 432 p + 1)).2 432) p := fun q a b => by rw [gpA_ni (by omega)]; exact te q a b
          have wp : (gpA t 432 p (t.2 432 p + 1)).2 432 p = t.2 432 p + 1 := gpA_eq
          have woff : goff s (gpA t 432 p (t.2 432 p + 1)) 432 := toff.put _ _
          have wcl : ∀ q : Int, mcl (gpA t 432 p (t.2 432 p + 1)) p q ↔ mcl s p q := fun q => by unfold mcl; rw [woff.2 433 (by decide)]
          have e1 : (gpA t 432 p (t.2 432 p + 1)).1 = s.1 := woff.1
          rintro v s9 ⟨⟨⟨hv, hmay⟩, e9⟩, r9⟩
          have fitw : v = 1 ↔ gfit (mcl s) (s.1 400 28) x1 ((gpA t 432 p (t.2 432 p + 1)).2 432) p := by
            rw [hmay, e1]
            constructor
            · rintro ⟨a, b⟩
              refine ⟨by rw [wp]; omega, by rw [wp, gop_congr p0 we]; omega, by rw [wp]; omega, fun q q0 q1 q2 => ?_, by rw [wp]; exact b⟩
              rw [wp] at q2
              rw [← wcl]; exact a q q0 q1 q2
            · rintro ⟨_, _, _, a, b⟩
              rw [wp] at b
              exact ⟨fun q q0 q1 q2 => by rw [wcl]; exact a q q0 q1 (by rw [wp]; exact q2), b⟩
          subst e9
          refine ⟨by rcases hv with z | z <;> rw [z] <;> exact rng_of (by omega) (by omega), fun h0 => ?_, fun h0 => ⟨fun _ => ⟨rng_of (by omega) (by omega), fun hl => ?_, fun hl => ⟨by rw [e1] at hl; omega, ?_⟩⟩, fun h2 => by rw [wp] at h2; omega⟩⟩
          · refine ihn _ woff r9 we (by rw [wp]; omega) (by rw [wp]; omega) (fun g' gv' ge => ?_) m hm
            rw [wp]
            have a := hg g' gv' ge
            have : ¬ g' p = t.2 432 p + 1 := fun z => by
              have := fitw.mpr (gfit_congr p0 ((ge.symm.trans we).s (by rw [wp, z])) (gv' p p0 hp))
              omega
            omega
          · rw [e1] at hl
            refine ih (p + 1) ((gpA t 432 p (t.2 432 p + 1)).2 432) (by omega) (by omega) (fun q a b => ?_) (fun u uoff ur ue ul => ?_) (fun u uoff ur ue un => ?_) _ woff r9 (gext.rf _ _) (fun z => by omega)
            · by_cases eq : q = p
              · rw [eq]; exact fitw.mp (by omega)
              · exact gfit_congr a (we.le (by omega)) (gv q a (by omega))
            · have ge0 : gext g0 (u.2 432) p := we.trans (ue.le (by omega))
              refine succ u uoff ur ge0 ⟨ul.1, fun g' gv' ge => ?_⟩
              have a := hg g' gv' (ge0.trans ge)
              have b := (ue p p0 (by omega)).trans wp
              by_cases e : g' p = u.2 432 p
              · rcases ul.2 g' gv' (ge.s e) with z | ⟨q, z1, z2, z3, z4⟩
                · exact Or.inl z
                · exact Or.inr ⟨q, by omega, z2, z3, z4⟩
              · exact Or.inr ⟨p, by omega, hp, ge, by omega⟩
            · rw [show p + 1 - 1 = p by omega]
              have ge0 : gext g0 (u.2 432) p := we.trans (ue.le (by omega))
              have b := (ue p p0 (by omega)).trans wp
              refine step9 u uoff ur ge0 (ihn u uoff ur ge0 (by omega) (by omega) (fun g' gv' ge => ?_))
              have a := hg g' gv' ge
              have : ¬ g' p = t.2 432 p + 1 := fun z => un g' gv' ((we.symm.trans ge).s (by rw [wp, z]))
              omega
          · rw [e1] at hl
            have xe : gext ((gpA t 432 p (t.2 432 p + 1)).2 432) ((gpA (gpA t 432 p (t.2 432 p + 1)) 432 (p + 1) (-1)).2 432) (p + 1) := fun q a b => by rw [gpA_ni (by omega)]
            refine ih (p + 1) ((gpA t 432 p (t.2 432 p + 1)).2 432) (by omega) (by omega) (fun q a b => ?_) (fun u uoff ur ue ul => ?_) (fun u uoff ur ue un => ?_) _ (woff.put _ _) (gRg_A r9 (rng_of (by omega) (by omega))) xe (fun z => ⟨by rw [gpA_eq]; omega, by rw [gpA_eq]; omega, fun g' gv' _ => by rw [gpA_eq]; have := (gv' (p + 1) (by omega) z).1; omega⟩)
            · by_cases eq : q = p
              · rw [eq]; exact fitw.mp (by omega)
              · exact gfit_congr a (we.le (by omega)) (gv q a (by omega))
            · have ge0 : gext g0 (u.2 432) p := we.trans (ue.le (by omega))
              refine succ u uoff ur ge0 ⟨ul.1, fun g' gv' ge => ?_⟩
              have a := hg g' gv' (ge0.trans ge)
              have b := (ue p p0 (by omega)).trans wp
              by_cases e : g' p = u.2 432 p
              · rcases ul.2 g' gv' (ge.s e) with z | ⟨q, z1, z2, z3, z4⟩
                · exact Or.inl z
                · exact Or.inr ⟨q, by omega, z2, z3, z4⟩
              · exact Or.inr ⟨p, by omega, hp, ge, by omega⟩
            · rw [show p + 1 - 1 = p by omega]
              have ge0 : gext g0 (u.2 432) p := we.trans (ue.le (by omega))
              have b := (ue p p0 (by omega)).trans wp
              refine step9 u uoff ur ge0 (ihn u uoff ur ge0 (by omega) (by omega) (fun g' gv' ge => ?_))
              have a := hg g' gv' ge
              have : ¬ g' p = t.2 432 p + 1 := fun z => un g' gv' ((we.symm.trans ge).s (by rw [wp, z]))
              omega
    intro t toff tr te hc
    obtain ⟨c1, c2, c3⟩ := hc hp
    exact step9 t toff tr te (inner (12 - t.2 432 p).toNat t toff tr te (by omega) ⟨c1, c2⟩ c3)
set_option maxRecDepth 100000 in
set_option maxHeartbeats 4000000 in
theorem c_X8_stand (l : Launch) {G : gG} (hG : gInj G) (s : gS) (x1 : Int) (p0 : gRg s) (p1 : 1 ≤ (s.1 400 26) ∧ (s.1 400 26) ≤ 12) (p2 : 1 ≤ x1 ∧ x1 ≤ 12) : gMet l G yX8_stand cX8_stand 5 (some .boolean) 2 [gR G 400, vi x1] s (gPi (fun v s' => (mstood s s' x1 v) ∧ gRg s')) := by
  refine gMet_of (plainFor_of_name (by decide)) hG (Nat.le_of_ble_eq_true rfl) (fun X hX hE => ?_)
  refine bk_X8_stand_0 hX hE s p0 x1  ?_
  have hoff : goff s (gpA s 432 0 (-1)) 432 := (goff.rf s 432).put _ _
  refine mgo hX hE rfl s x1 p1 p2 (s.1 400 26).toNat 0 ((gpA s 432 0 (-1)).2 432) (by omega) (by omega) (fun p a b => by omega) (fun u uoff ur ue ul => ?_) (fun u uoff ur ue un => ?_) _ hoff (gRg_A p0 (rng_of (by omega) (by omega))) (gext.rf _ _) (fun z => ⟨by rw [gpA_eq]; omega, by rw [gpA_eq]; omega, fun g' gv' _ => by rw [gpA_eq]; have := (gv' 0 (by omega) z).1; omega⟩)
  · exact bk_X8_stand_9 hX hE u ur x1 _ ⟨rng_of (by omega) (by omega), fun h => by omega, fun _ => ⟨fun h => ⟨fun h2 => by rw [uoff.1] at h2; omega, fun _ => ⟨uoff, Or.inr rfl, fun _ => ul, fun z => by omega⟩⟩, fun h => by rw [uoff.1] at h; omega⟩⟩
  · exact bk_X8_stand_9 hX hE u ur x1 _ ⟨rng_of (by omega) (by omega), fun h => ⟨fun h2 => ⟨uoff, Or.inl rfl, fun z => by omega, fun _ g g' gv _ => un g' gv (fun p a b => by omega)⟩, fun h2 => by rw [uoff.1] at h2; omega⟩, fun h => by omega⟩
set_option maxRecDepth 100000 in
set_option maxHeartbeats 4000000 in
theorem bk_X8_hours_0 {X : gX} {G : gG} (hX : gOk X G cX8_hours 4 RX8 (some .int) 3) {Q : Int → gS → Prop} (hE : gEnd X G (gPi (fun v s' => Q v s' ∧ gRg s'))) (s : gS) (hs : gRg s) (x1 : Int)  (h : (rng x1) ∧ ((0 ≤ x1 ∧ x1 ≤ 1000 → gWL X G s 15 [(0, gR G 400), (1, vi x1), (2, vi 0)] []) ∧ (¬ (0 ≤ x1 ∧ x1 ≤ 1000) → Q (-1) s))) : gWL X G s 0 [(0, gR G 400), (1, vi x1)] [] := by
  refine g_iload_n hX dX8_hours_0 1 rfl ?_
  refine g_iconst hX dX8_hours_1 ?_
  refine g_sipush hX dX8_hours_2 rfl ?_
  obtain ⟨h1, h⟩ := h
  refine g_cSf (As := [vi x1, vi 0, vi 1000]) hX (fun l => c_X8_isIn l hX.inj s x1 0 1000 hs h1 (by unfold rng; omega) (by unfold rng; omega)) cv_X8_102 (by decide) rfl (Nat.le_of_ble_eq_true rfl) dX8_hours_5 rfl (fun g2 => ?_)
  refine g_ifne (tgt := 13) hX (gb_rng _) dX8_hours_8 (by decide) (fun c3 => ?_) (fun c3 => ?_)
  · replace h := h.1 (gb_n0.mp c3)
    refine g_iconst hX dX8_hours_13 ?_
    refine g_istore_n (loc' := [(2, vi 0), (0, gR G 400), (1, vi x1)]) hX dX8_hours_14 (by decide) rfl ?_
    exact g_sub [1, 2, 0] rfl h
  · replace h := h.2 (gb_eq0.mp (gnn c3))
    refine g_iconst hX dX8_hours_11 ?_
    exact g_iret hX hE dX8_hours_12 ⟨h, hs⟩
set_option maxRecDepth 100000 in
set_option maxHeartbeats 4000000 in
theorem bk_X8_hours_15 {X : gX} {G : gG} (hX : gOk X G cX8_hours 4 RX8 (some .int) 3) {Q : Int → gS → Prop} (hE : gEnd X G (gPi (fun v s' => Q v s' ∧ gRg s'))) (s : gS) (hs : gRg s) (x1 : Int) (x2 : Int)  (h : (rng x2) ∧ (((s.1 400 26) ≤ x2 → ((¬ (s.1 400 26) = 0 → (rng (((s.1 400 26) + (s.1 400 28)) - 1)) ∧ (0 < (s.1 400 28)) ∧ gWL X G (gpI s 400 29 (s.1 400 26)) 136 [(0, gR G 400), (2, vi ((((s.1 400 26) + (s.1 400 28)) - 1).tdiv (s.1 400 28)))] []) ∧ ((s.1 400 26) = 0 → Q 0 (gpI s 400 29 (s.1 400 26))))) ∧ (x2 < (s.1 400 26) → gWL X G s 25 [(0, gR G 400), (1, vi x1), (2, vi x2), (3, vi 0)] []))) : gWL X G s 15 [(0, gR G 400), (1, vi x1), (2, vi x2)] [] := by
  refine g_iload_n hX dX8_hours_15 2 rfl ?_
  refine g_aload_n hX dX8_hours_16 0 rfl ?_
  refine g_getI hX sh_400 26 rfl fl_X8_175 dX8_hours_17 ?_
  obtain ⟨h1, h⟩ := h
  refine g_icge (tgt := 102) hX h1 (hs.1 _ _) dX8_hours_20 (by decide) (fun c2 => ?_) (fun c2 => ?_)
  · replace h := h.1 c2
    refine g_aload_n hX dX8_hours_102 0 rfl ?_
    refine g_aload_n hX dX8_hours_103 0 rfl ?_
    refine g_getI hX sh_400 26 rfl fl_X8_175 dX8_hours_104 ?_
    refine g_putI hX sh_400 29 rfl fl_X8_181 (fun _ _ _ e => by cases e; rfl) dX8_hours_107 ?_
    refine g_aload_n hX dX8_hours_110 0 rfl ?_
    refine g_getI hX sh_400 26 rfl fl_X8_175 dX8_hours_111 ?_
    refine g_top (gpI_nj (by decide)) ?_
    refine g_ifne (tgt := 119) hX (hs.1 _ _) dX8_hours_114 (by decide) (fun c3 => ?_) (fun c3 => ?_)
    · replace h := h.1 c3
      refine g_aload_n hX dX8_hours_119 0 rfl ?_
      refine g_getI hX sh_400 26 rfl fl_X8_175 dX8_hours_120 ?_
      refine g_top (gpI_nj (by decide)) ?_
      refine g_aload_n hX dX8_hours_123 0 rfl ?_
      refine g_getI hX sh_400 28 rfl fl_X8_87 dX8_hours_124 ?_
      refine g_top (gpI_nj (by decide)) ?_
      refine g_iadd hX dX8_hours_127 ?_
      refine g_iconst hX dX8_hours_128 ?_
      refine g_isub hX dX8_hours_129 ?_
      refine g_aload_n hX dX8_hours_130 0 rfl ?_
      refine g_getI hX sh_400 28 rfl fl_X8_87 dX8_hours_131 ?_
      refine g_top (gpI_nj (by decide)) ?_
      obtain ⟨h4, h⟩ := h
      obtain ⟨h5, h⟩ := h
      refine g_idiv hX h4 (hs.1 _ _) h5 dX8_hours_134 ?_
      refine g_istore_n (loc' := [(2, vi ((((s.1 400 26) + (s.1 400 28)) - 1).tdiv (s.1 400 28))), (0, gR G 400), (1, vi x1)]) hX dX8_hours_135 (by decide) rfl ?_
      exact g_sub [1, 0] rfl h
    · replace h := h.2 (gnn c3)
      refine g_iconst hX dX8_hours_117 ?_
      exact g_iret hX hE dX8_hours_118 ⟨h, (gRg_I hs (hs.1 _ _))⟩
  · replace h := h.2 (Int.not_le.mp c2)
    refine g_iconst hX dX8_hours_23 ?_
    refine g_istore_n (loc' := [(3, vi 0), (0, gR G 400), (1, vi x1), (2, vi x2)]) hX dX8_hours_24 (by decide) rfl ?_
    exact g_sub [1, 2, 3, 0] rfl h
set_option maxRecDepth 100000 in
set_option maxHeartbeats 4000000 in
theorem bk_X8_hours_25 {X : gX} {G : gG} (hX : gOk X G cX8_hours 4 RX8 (some .int) 3) {Q : Int → gS → Prop} (hE : gEnd X G (gPi (fun v s' => Q v s' ∧ gRg s'))) (s : gS) (hs : gRg s) (x1 : Int) (x2 : Int) (x3 : Int)  (h : (rng x3) ∧ (((s.1 400 26) ≤ x3 → gWL X G s 15 [(0, gR G 400), (1, vi x1), (2, vi (x2 + 1))] []) ∧ (x3 < (s.1 400 26) → (0 ≤ x2 ∧ x2 < 12) ∧ (0 ≤ x3 ∧ x3 < 12) ∧ (((s.2 428 x2) = (s.2 428 x3) → (0 ≤ ((12 * x2) + x3) ∧ ((12 * x2) + x3) < 144) ∧ gWL X G (gpA s 433 ((12 * x2) + x3) 1) 25 [(0, gR G 400), (1, vi x1), (2, vi x2), (3, vi (x3 + 1))] []) ∧ (¬ ((s.2 428 x2) = (s.2 428 x3)) → (rng x1) ∧ (0 ≤ (s.1 400 21) ∧ (s.1 400 21) ≤ 60) ∧ (((gand (gsingM s (s.2 428 x2) x1) (gsingM s (s.2 428 x3) x1)) = 0 → (0 ≤ ((12 * x2) + x3) ∧ ((12 * x2) + x3) < 144) ∧ gWL X G (gpA s 433 ((12 * x2) + x3) 0) 25 [(0, gR G 400), (1, vi x1), (2, vi x2), (3, vi (x3 + 1))] []) ∧ (¬ ((gand (gsingM s (s.2 428 x2) x1) (gsingM s (s.2 428 x3) x1)) = 0) → (0 ≤ ((12 * x2) + x3) ∧ ((12 * x2) + x3) < 144) ∧ gWL X G (gpA s 433 ((12 * x2) + x3) 1) 25 [(0, gR G 400), (1, vi x1), (2, vi x2), (3, vi (x3 + 1))] []))))))) : gWL X G s 25 [(0, gR G 400), (1, vi x1), (2, vi x2), (3, vi x3)] [] := by
  refine g_iload_n hX dX8_hours_25 3 rfl ?_
  refine g_aload_n hX dX8_hours_26 0 rfl ?_
  refine g_getI hX sh_400 26 rfl fl_X8_175 dX8_hours_27 ?_
  obtain ⟨h1, h⟩ := h
  refine g_icge (tgt := 96) hX h1 (hs.1 _ _) dX8_hours_30 (by decide) (fun c2 => ?_) (fun c2 => ?_)
  · replace h := h.1 c2
    refine g_iinc (loc' := [(2, vi (x2 + 1)), (0, gR G 400), (1, vi x1), (3, vi x3)]) hX dX8_hours_96 2 rfl (by decide) rfl ?_
    refine g_goto (tgt := 15) hX dX8_hours_99 (by decide) ?_
    exact g_sub [1, 2, 0] rfl h
  · replace h := h.2 (Int.not_le.mp c2)
    refine g_aload_n hX dX8_hours_33 0 rfl ?_
    refine g_getR hX sh_400 32 rfl fl_X8_96 dX8_hours_34 ?_
    refine g_bipush hX dX8_hours_37 rfl ?_
    refine g_iload_n hX dX8_hours_39 2 rfl ?_
    refine g_imul hX dX8_hours_40 ?_
    refine g_iload_n hX dX8_hours_41 3 rfl ?_
    refine g_iadd hX dX8_hours_42 ?_
    refine g_aload_n hX dX8_hours_43 0 rfl ?_
    refine g_getR hX sh_400 27 rfl fl_X8_84 dX8_hours_44 ?_
    refine g_iload_n hX dX8_hours_47 2 rfl ?_
    obtain ⟨h3, h⟩ := h
    refine g_iald hX sh_428 h3 (by decide) dX8_hours_48 ?_
    refine g_aload_n hX dX8_hours_49 0 rfl ?_
    refine g_getR hX sh_400 27 rfl fl_X8_84 dX8_hours_50 ?_
    refine g_iload_n hX dX8_hours_53 3 rfl ?_
    obtain ⟨h4, h⟩ := h
    refine g_iald hX sh_428 h4 (by decide) dX8_hours_54 ?_
    refine g_iceq (tgt := 84) hX (hs.2 _ _) (hs.2 _ _) dX8_hours_55 (by decide) (fun c5 => ?_) (fun c5 => ?_)
    · replace h := h.1 c5
      refine g_iconst hX dX8_hours_84 ?_
      refine g_goto (tgt := 89) hX dX8_hours_85 (by decide) ?_
      obtain ⟨h6, h⟩ := h
      refine g_zast hX sh_433 h6 (by decide) (Or.inr rfl) dX8_hours_89 ?_
      refine g_iinc (loc' := [(3, vi (x3 + 1)), (0, gR G 400), (1, vi x1), (2, vi x2)]) hX dX8_hours_90 3 rfl (by decide) rfl ?_
      refine g_goto (tgt := 25) hX dX8_hours_93 (by decide) ?_
      exact g_sub [1, 2, 3, 0] rfl h
    · replace h := h.2 c5
      refine g_aload_n hX dX8_hours_58 0 rfl ?_
      refine g_aload_n hX dX8_hours_59 0 rfl ?_
      refine g_getR hX sh_400 27 rfl fl_X8_84 dX8_hours_60 ?_
      refine g_iload_n hX dX8_hours_63 2 rfl ?_
      refine g_iald hX sh_428 h3 (by decide) dX8_hours_64 ?_
      refine g_iload_n hX dX8_hours_65 1 rfl ?_
      obtain ⟨h7, h⟩ := h
      obtain ⟨h8, h⟩ := h
      refine g_cVf (As := [vi (s.2 428 x2), vi x1]) hX (fun l => c_X8_singers l hX.inj s (s.2 428 x2) x1 hs (hs.2 _ _) h7 h8) sh_400 cv_X8_172 (by decide) rfl (Nat.le_of_ble_eq_true rfl) dX8_hours_66 rfl (fun g9 => ?_)
      refine g_aload_n hX dX8_hours_69 0 rfl ?_
      refine g_aload_n hX dX8_hours_70 0 rfl ?_
      refine g_getR hX sh_400 27 rfl fl_X8_84 dX8_hours_71 ?_
      refine g_iload_n hX dX8_hours_74 3 rfl ?_
      refine g_iald hX sh_428 h4 (by decide) dX8_hours_75 ?_
      refine g_iload_n hX dX8_hours_76 1 rfl ?_
      refine g_cVf (As := [vi (s.2 428 x3), vi x1]) hX (fun l => c_X8_singers l hX.inj s (s.2 428 x3) x1 hs (hs.2 _ _) h7 h8) sh_400 cv_X8_172 (by decide) rfl (Nat.le_of_ble_eq_true rfl) dX8_hours_77 rfl (fun g10 => ?_)
      refine g_iand hX dX8_hours_80 ?_
      refine g_ifeq (tgt := 88) hX (rng_i _) dX8_hours_81 (by decide) (fun c11 => ?_) (fun c11 => ?_)
      · replace h := h.1 c11
        refine g_iconst hX dX8_hours_88 ?_
        obtain ⟨h12, h⟩ := h
        refine g_zast hX sh_433 h12 (by decide) (Or.inl rfl) dX8_hours_89 ?_
        refine g_iinc (loc' := [(3, vi (x3 + 1)), (0, gR G 400), (1, vi x1), (2, vi x2)]) hX dX8_hours_90 3 rfl (by decide) rfl ?_
        refine g_goto (tgt := 25) hX dX8_hours_93 (by decide) ?_
        exact g_sub [1, 2, 3, 0] rfl h
      · replace h := h.2 c11
        refine g_iconst hX dX8_hours_84 ?_
        refine g_goto (tgt := 89) hX dX8_hours_85 (by decide) ?_
        obtain ⟨h13, h⟩ := h
        refine g_zast hX sh_433 h13 (by decide) (Or.inr rfl) dX8_hours_89 ?_
        refine g_iinc (loc' := [(3, vi (x3 + 1)), (0, gR G 400), (1, vi x1), (2, vi x2)]) hX dX8_hours_90 3 rfl (by decide) rfl ?_
        refine g_goto (tgt := 25) hX dX8_hours_93 (by decide) ?_
        exact g_sub [1, 2, 3, 0] rfl h
set_option maxRecDepth 100000 in
set_option maxHeartbeats 4000000 in
theorem bk_X8_hours_136 {X : gX} {G : gG} (hX : gOk X G cX8_hours 4 RX8 (some .int) 3) {Q : Int → gS → Prop} (hE : gEnd X G (gPi (fun v s' => Q v s' ∧ gRg s'))) (s : gS) (hs : gRg s) (x2 : Int)  (h : (1 ≤ (s.1 400 26) ∧ (s.1 400 26) ≤ 12) ∧ (1 ≤ x2 ∧ x2 ≤ 12) ∧ (∀ (v5 : Int) (s3 : gS), ((mstood s s3 x2 v5) ∧ gRg s3) → (rng v5) ∧ ((¬ v5 = 0 → gWL X G s3 152 [(0, gR G 400), (2, vi x2), (3, vi 0)] []) ∧ (v5 = 0 → gWL X G s3 136 [(0, gR G 400), (2, vi (x2 + 1))] [])))) : gWL X G s 136 [(0, gR G 400), (2, vi x2)] [] := by
  refine g_aload_n hX dX8_hours_136 0 rfl ?_
  refine g_iload_n hX dX8_hours_137 1 rfl ?_
  obtain ⟨h1, h⟩ := h
  obtain ⟨h2, h⟩ := h
  refine g_cVr (As := [vi x2]) hX (fun l => c_X8_stand l hX.inj s x2 hs h1 h2) sh_400 cv_X8_184 (by decide) rfl (Nat.le_of_ble_eq_true rfl) dX8_hours_138 rfl (fun v5 s3 q4 => ?_)
  replace h := h v5 s3 q4
  have rs3 : gRg s3 := q4.2
  obtain ⟨h6, h⟩ := h
  refine g_ifne (tgt := 150) hX h6 dX8_hours_141 (by decide) (fun c7 => ?_) (fun c7 => ?_)
  · replace h := h.1 c7
    refine g_iconst hX dX8_hours_150 ?_
    refine g_istore_n (loc' := [(3, vi 0), (0, gR G 400), (2, vi x2)]) hX dX8_hours_151 (by decide) rfl ?_
    exact g_sub [1, 2, 0] rfl h
  · replace h := h.2 (gnn c7)
    refine g_iinc (loc' := [(2, vi (x2 + 1)), (0, gR G 400)]) hX dX8_hours_144 1 rfl (by decide) rfl ?_
    refine g_goto (tgt := 136) hX dX8_hours_147 (by decide) ?_
    exact g_sub [1, 0] rfl h
set_option maxRecDepth 100000 in
set_option maxHeartbeats 4000000 in
theorem bk_X8_hours_152 {X : gX} {G : gG} (hX : gOk X G cX8_hours 4 RX8 (some .int) 3) {Q : Int → gS → Prop} (hE : gEnd X G (gPi (fun v s' => Q v s' ∧ gRg s'))) (s : gS) (hs : gRg s) (x2 : Int) (x3 : Int)  (h : (rng x3) ∧ (((s.1 400 26) ≤ x3 → Q x2 s) ∧ (x3 < (s.1 400 26) → (0 ≤ x3 ∧ x3 < 12) ∧ gWL X G (gpA s 431 x3 (s.2 432 x3)) 152 [(0, gR G 400), (2, vi x2), (3, vi (x3 + 1))] []))) : gWL X G s 152 [(0, gR G 400), (2, vi x2), (3, vi x3)] [] := by
  refine g_iload_n hX dX8_hours_152 2 rfl ?_
  refine g_aload_n hX dX8_hours_153 0 rfl ?_
  refine g_getI hX sh_400 26 rfl fl_X8_175 dX8_hours_154 ?_
  obtain ⟨h1, h⟩ := h
  refine g_icge (tgt := 178) hX h1 (hs.1 _ _) dX8_hours_157 (by decide) (fun c2 => ?_) (fun c2 => ?_)
  · replace h := h.1 c2
    refine g_iload_n hX dX8_hours_178 1 rfl ?_
    exact g_iret hX hE dX8_hours_179 ⟨h, hs⟩
  · replace h := h.2 (Int.not_le.mp c2)
    refine g_aload_n hX dX8_hours_160 0 rfl ?_
    refine g_getR hX sh_400 30 rfl fl_X8_90 dX8_hours_161 ?_
    refine g_iload_n hX dX8_hours_164 2 rfl ?_
    refine g_aload_n hX dX8_hours_165 0 rfl ?_
    refine g_getR hX sh_400 31 rfl fl_X8_93 dX8_hours_166 ?_
    refine g_iload_n hX dX8_hours_169 2 rfl ?_
    obtain ⟨h3, h⟩ := h
    refine g_iald hX sh_432 h3 (by decide) dX8_hours_170 ?_
    refine g_iast hX sh_431 h3 (by decide) dX8_hours_171 ?_
    refine g_iinc (loc' := [(3, vi (x3 + 1)), (0, gR G 400), (2, vi x2)]) hX dX8_hours_172 2 rfl (by decide) rfl ?_
    refine g_goto (tgt := 152) hX dX8_hours_175 (by decide) ?_
    exact g_sub [1, 2, 0] rfl h
theorem gsingM_off {s t : gS} (h1 : t.1 = s.1) (h : ∀ k : Int, k ≠ 433 → t.2 k = s.2 k) (c d : Int) : gsingM t c d = gsingM s c d := by
  unfold gsingM gsing
  rw [h1, h 423 (by decide), h 424 (by decide), h 425 (by decide), h 426 (by decide)]
theorem gceil {N H m : Int} (hN : 1 ≤ N ∧ N ≤ 12) (hH : 1 ≤ H ∧ H ≤ 4) : (1 ≤ ((N + H) - 1).tdiv H ∧ ((N + H) - 1).tdiv H ≤ N) ∧ (0 ≤ m → m < ((N + H) - 1).tdiv H → m * H < N) := by
  rw [Int.tdiv_eq_ediv_of_nonneg (by omega)]
  have : H = 1 ∨ H = 2 ∨ H = 3 ∨ H = 4 := by omega
  rcases this with z | z | z | z <;> subst z <;> omega
set_option maxRecDepth 100000 in
set_option maxHeartbeats 4000000 in
theorem c_X8_hours (l : Launch) {G : gG} (hG : gInj G) (s : gS) (x1 : Int) (p0 : gRg s) (p1 : rng x1) (p2 : 0 ≤ (s.1 400 26) ∧ (s.1 400 26) ≤ 12) (p3 : 1 ≤ (s.1 400 28) ∧ (s.1 400 28) ≤ 4) (p4 : 0 ≤ (s.1 400 21) ∧ (s.1 400 21) ≤ 60) : gMet l G yX8_hours cX8_hours 4 (some .int) 3 [gR G 400, vi x1] s (gPi (fun v s' => (((0 ≤ x1 ∧ x1 ≤ 1000) → mhours s s' x1 v) ∧ (¬ (0 ≤ x1 ∧ x1 ≤ 1000) → v = -1 ∧ s' = s)) ∧ gRg s')) := by
  refine gMet_of (plainFor_of_name (by decide)) hG (Nat.le_of_ble_eq_true rfl) (fun X hX hE => ?_)
  refine bk_X8_hours_0 hX hE s p0 x1  ?_
  refine ⟨p1, fun hd => ?_, fun hd => ⟨fun z => absurd z hd, fun _ => ⟨rfl, rfl⟩⟩⟩
  have main : ∀ (v : Int) (t : gS), mhours s t x1 v → (((0 ≤ x1 ∧ x1 ≤ 1000) → mhours s t x1 v) ∧ (¬ (0 ≤ x1 ∧ x1 ≤ 1000) → v = -1 ∧ t = s)) := fun v t h => ⟨fun _ => h, fun z => absurd hd z⟩
  refine gloop (α := gS) (hi := s.1 400 26) (fun i t => 0 ≤ i ∧ goff s t 433 ∧ gRg t ∧ ∀ p q : Int, 0 ≤ p → p < i → 0 ≤ q → q < s.1 400 26 → (mcl t p q ↔ mMt s x1 p q)) (fun i t => gWL X G t 15 [(0, gR G 400), (1, vi x1), (2, vi i)] []) ?_ ?_ 0 s p2.1 ⟨by omega, goff.rf _ _, p0, fun p q a b => by omega⟩
  · intro i t hi ⟨i0, toff, tr, tm⟩ next
    refine bk_X8_hours_15 hX hE t tr x1 i ⟨rng_of (by omega) (by omega), fun h => by rw [toff.1] at h; omega, fun _ => ?_⟩
    refine gloop (α := gS) (hi := s.1 400 26) (fun j u => 0 ≤ j ∧ goff s u 433 ∧ gRg u ∧ (∀ p q : Int, 0 ≤ p → p < i → 0 ≤ q → q < s.1 400 26 → (mcl u p q ↔ mMt s x1 p q)) ∧ ∀ q : Int, 0 ≤ q → q < j → (mcl u i q ↔ mMt s x1 i q)) (fun j u => gWL X G u 25 [(0, gR G 400), (1, vi x1), (2, vi i), (3, vi j)] []) ?_ ?_ 0 t p2.1 ⟨by omega, toff, tr, tm, fun q a b => by omega⟩
    · intro j u hj ⟨j0, uoff, ur, um, uq⟩ nextj
      have e428 : u.2 428 = s.2 428 := uoff.2 428 (by decide)
      have eS : ∀ c d : Int, gsingM u c d = gsingM s c d := gsingM_off uoff.1 uoff.2
      have put : ∀ b : Int, rng b → (¬ b = 0 ↔ mMt s x1 i j) → gWL X G (gpA u 433 ((12 * i) + j) b) 25 [(0, gR G 400), (1, vi x1), (2, vi i), (3, vi (j + 1))] [] := fun b hb hbm => by
        refine nextj _ ⟨by omega, uoff.put _ _, gRg_A ur hb, fun p q a b c d => ?_, fun q a b => ?_⟩
        · unfold mcl
          rw [gpA_ni (by omega)]; exact um p q a b c d
        · by_cases e : q = j
          · subst e; unfold mcl; rw [gpA_eq]; exact hbm
          · unfold mcl
            rw [gpA_ni (by omega)]; exact uq q a (by omega)
      refine bk_X8_hours_25 hX hE u ur x1 i j ⟨rng_of (by omega) (by omega), fun h => by rw [uoff.1] at h; omega, fun _ => ⟨by omega, by omega, fun h => ⟨by omega, put 1 (rng_of (by omega) (by omega)) ⟨fun _ => Or.inl (by rw [← e428]; exact h), fun _ => by omega⟩⟩, fun h => ⟨p1, by rw [uoff.1]; exact p4, fun h2 => ⟨by omega, put 0 rng_0 ⟨fun z => absurd rfl z, fun z => ?_⟩⟩, fun h2 => ⟨by omega, put 1 (rng_of (by omega) (by omega)) ⟨fun _ => Or.inr ?_, fun _ => by omega⟩⟩⟩⟩⟩
      · rw [e428] at h
        rw [eS, eS, e428] at h2
        rcases z with z | z
        · exact absurd z h
        · exact absurd h2 z
      · rw [eS, eS, e428] at h2; exact h2
    · intro u ⟨j0, uoff, ur, um, uq⟩
      refine bk_X8_hours_25 hX hE u ur x1 i _ ⟨rng_of (by omega) (by omega), fun _ => next u ⟨by omega, uoff, ur, fun p q a b c d => ?_⟩, fun h => by rw [uoff.1] at h; omega⟩
      by_cases e : p = i
      · rw [e]; exact uq q c d
      · exact um p q a (by omega) c d
  · intro t ⟨i0, toff, tr, tm⟩
    have e1 : t.1 = s.1 := toff.1
    refine bk_X8_hours_15 hX hE t tr x1 _ ⟨rng_of (by omega) (by omega), fun _ => ⟨fun hz => ⟨by rw [e1]; exact rng_of (by omega) (by omega), by rw [e1]; omega, ?_⟩, fun hz => ?_⟩, fun h => by rw [e1] at h; omega⟩
    · rw [e1] at hz
      have hN : 1 ≤ s.1 400 26 ∧ s.1 400 26 ≤ 12 := by omega
      have f1 : (gpI t 400 29 (t.1 400 26)).1 400 26 = s.1 400 26 := by rw [gpI_nj (by decide), e1]
      have f2 : (gpI t 400 29 (t.1 400 26)).1 400 28 = s.1 400 28 := by rw [gpI_nj (by decide), e1]
      have fr : gRg (gpI t 400 29 (t.1 400 26)) := gRg_I tr (tr.1 400 26)
      rw [e1]
      rw [e1] at f1 f2 fr
      have fin : ∀ (n : Int) (u : gS), 1 ≤ n → goff (gpI t 400 29 (s.1 400 26)) u 432 → gRg u → (∀ m' : Int, 0 ≤ m' → m' < n → ∀ g : Int → Int, gnone (mcl t) (s.1 400 28) m' (s.1 400 26) 0 g) → glex (mcl t) (s.1 400 28) n (s.1 400 26) 0 (u.2 432) → gWL X G u 152 [(0, gR G 400), (2, vi n), (3, vi 0)] [] := by
        intro n u n1 uoff ur un ul
        refine gloop (α := gS) (hi := s.1 400 26) (fun i w => 0 ≤ i ∧ goff u w 431 ∧ gRg w ∧ ∀ q : Int, 0 ≤ q → q < i → w.2 431 q = u.2 432 q) (fun i w => gWL X G w 152 [(0, gR G 400), (2, vi n), (3, vi i)] []) ?_ ?_ 0 u (by omega) ⟨by omega, goff.rf _ _, ur, fun q a b => by omega⟩
        · intro i w hi ⟨i0, woff, wr, wq⟩ next
          refine bk_X8_hours_152 hX hE w wr n i ⟨rng_of (by omega) (by omega), fun h => by rw [woff.1, uoff.1, f1] at h; omega, fun _ => ⟨by omega, next _ ⟨by omega, woff.put _ _, gRg_A wr (wr.2 432 i), fun q a b => ?_⟩⟩⟩
          by_cases e : q = i
          · subst e; rw [gpA_eq, woff.2 432 (by decide)]
          · rw [gpA_ni e]; exact wq q a (by omega)
        · intro w ⟨i0, woff, wr, wq⟩
          refine bk_X8_hours_152 hX hE w wr n _ ⟨rng_of (by omega) (by omega), fun _ => main _ _ ⟨fun k j hk => ?_, ?_, fun k a b c => ?_, ?_⟩, fun h => by rw [woff.1, uoff.1, f1] at h; omega⟩
          · rw [woff.1, uoff.1]
            by_cases ek : k = 400
            · rw [gpI_nj (fun z => hk ⟨ek, z⟩), e1]
            · rw [gpI_nk ek, e1]
          · rw [woff.1, uoff.1, gpI_eq]
          · rw [woff.2 k a, uoff.2 k b]; exact toff.2 k c
          · refine gbest_cl (fun p q a b c => tm p q (by omega) c a (by omega)) ⟨by omega, glex_ext (fun q a b => wq q a b) (by omega) (by omega) ul, fun m' a b => un m' a b _⟩
      have hc := (gceil (m := 0) hN p3).1
      refine gloop (α := gS) (hi := s.1 400 26) (fun n u => 1 ≤ n ∧ goff (gpI t 400 29 (s.1 400 26)) u 432 ∧ gRg u ∧ ∀ m' : Int, 0 ≤ m' → m' < n → ∀ g : Int → Int, gnone (mcl t) (s.1 400 28) m' (s.1 400 26) 0 g) (fun n u => (n ≤ s.1 400 26) → gWL X G u 136 [(0, gR G 400), (2, vi n)] []) ?_ ?_ _ _ hc.2 ⟨hc.1, goff.rf _ _, fr, fun m' a b g g' gv _ => ?_⟩ hc.2
      · intro n u hn ⟨n1, uoff, ur, un⟩ next _
        have u1 : u.1 400 26 = s.1 400 26 := by rw [uoff.1, f1]
        have u2 : u.1 400 28 = s.1 400 28 := by rw [uoff.1, f2]
        have ucl : mcl u = mcl t := by
          unfold mcl; rw [uoff.2 433 (by decide)]; rfl
        refine bk_X8_hours_136 hX hE u ur n ⟨by rw [u1]; exact hN, by omega, fun v w ⟨⟨woff, wv, w1, w0⟩, wr⟩ => ?_⟩
        rw [ucl, u1, u2] at w1 w0
        refine ⟨by rcases wv with z | z <;> rw [z] <;> exact rng_of (by omega) (by omega), fun hv => ?_, fun hv => ?_⟩
        · exact fin n w n1 ⟨woff.1.trans uoff.1, fun k a => (woff.2 k a).trans (uoff.2 k a)⟩ wr un (w1 (by omega))
        · refine next w ⟨by omega, ⟨woff.1.trans uoff.1, fun k a => (woff.2 k a).trans (uoff.2 k a)⟩, wr, fun m' a b g => ?_⟩ (by omega)
          by_cases e : m' = n
          · rw [e]; exact w0 hv g
          · exact un m' a (by omega) g
      · intro u ⟨n1, uoff, ur, un⟩ _
        have u1 : u.1 400 26 = s.1 400 26 := by rw [uoff.1, f1]
        have u2 : u.1 400 28 = s.1 400 28 := by rw [uoff.1, f2]
        have ucl : mcl u = mcl t := by
          unfold mcl; rw [uoff.2 433 (by decide)]; rfl
        refine bk_X8_hours_136 hX hE u ur _ ⟨by rw [u1]; exact hN, by omega, fun v w ⟨⟨woff, wv, w1, w0⟩, wr⟩ => ?_⟩
        rw [ucl, u1, u2] at w1 w0
        refine ⟨by rcases wv with z | z <;> rw [z] <;> exact rng_of (by omega) (by omega), fun hv => ?_, fun hv => ?_⟩
        · exact fin _ w n1 ⟨woff.1.trans uoff.1, fun k a => (woff.2 k a).trans (uoff.2 k a)⟩ wr un (w1 (by omega))
        · exact absurd (w0 hv (fun q => q)) (gfeas (by omega) _)
      · have := gval_room (by omega) a (by omega) gv
        have := (gceil (m := m') hN p3).2 a b
        omega
    · rw [e1] at hz
      refine main _ _ ⟨fun k j hk => ?_, by rw [gpI_eq, e1], fun k a b c => toff.2 k c, by omega, ⟨fun p a b => by omega, fun g' _ _ => Or.inl (fun p a b => by omega)⟩, fun m a b => by omega⟩
      by_cases ek : k = 400
      · rw [gpI_nj (fun z => hk ⟨ek, z⟩), e1]
      · rw [gpI_nk ek, e1]

