theorem fl_X6_9 : gFL RX6 9 6 0 := ⟨RX6, TX6, 8, tyX6, rfl, by decide, inG_X6, (gm_1 193 rfl rfl), tyX6_ok, nmX6, fun h => absurd h (by decide)⟩
theorem fl_X6_15 : gFL RX6 15 6 1 := ⟨RX6, TX6, 8, tyX6, rfl, by decide, inG_X6, (gm_1 195 rfl rfl), tyX6_ok, nmX6, fun _ => rfl⟩
theorem fl_X6_19 : gFL RX6 19 6 2 := ⟨RX6, TX6, 8, tyX6, rfl, by decide, inG_X6, (gm_1 197 rfl rfl), tyX6_ok, nmX6, fun _ => rfl⟩
theorem fl_X6_22 : gFL RX6 22 6 3 := ⟨RX6, TX6, 8, tyX6, rfl, by decide, inG_X6, (gm_1 199 rfl rfl), tyX6_ok, nmX6, fun _ => rfl⟩
theorem fl_X6_25 : gFL RX6 25 6 4 := ⟨RX6, TX6, 8, tyX6, rfl, by decide, inG_X6, (gm_1 201 rfl rfl), tyX6_ok, nmX6, fun h => absurd h (by decide)⟩
theorem fl_X6_28 : gFL RX6 28 6 5 := ⟨RX6, TX6, 8, tyX6, rfl, by decide, inG_X6, (gm_1 202 rfl rfl), tyX6_ok, nmX6, fun h => absurd h (by decide)⟩
theorem fl_X6_31 : gFL RX6 31 6 6 := ⟨RX6, TX6, 8, tyX6, rfl, by decide, inG_X6, (gm_1 203 rfl rfl), tyX6_ok, nmX6, fun h => absurd h (by decide)⟩
theorem fl_X6_34 : gFL RX6 34 6 7 := ⟨RX6, TX6, 8, tyX6, rfl, by decide, inG_X6, (gm_1 204 rfl rfl), tyX6_ok, nmX6, fun h => absurd h (by decide)⟩
theorem cv_X6_37 : gCV RX6 37 yX6_findClashes cX6_findClashes 5 none 2 6 := ⟨TX6, 8, rfl, (gm_3 2 rfl rfl), (gm_3 4 rfl rfl), (gm_s 13 rfl rfl), (gm_1 8 rfl rfl), (gm_3 5 rfl rfl), ⟨by decide, by decide, by decide +kernel⟩, by decide⟩
theorem cv_X6_41 : gCV RX6 41 yX6_countNeeded cX6_countNeeded 5 (some .int) 0 6 := ⟨TX6, 8, rfl, (gm_3 7 rfl rfl), (gm_3 9 rfl rfl), (gm_s 14 rfl rfl), (gm_1 8 rfl rfl), (gm_3 10 rfl rfl), ⟨by decide, by decide, by decide +kernel⟩, by decide⟩
theorem cv_X6_45 : gCV RX6 45 yX6_standsFrom cX6_standsFrom 5 (some .boolean) 3 6 := ⟨TX6, 8, rfl, (gm_3 15 rfl rfl), (gm_3 17 rfl rfl), (gm_s 15 rfl rfl), (gm_1 8 rfl rfl), (gm_3 18 rfl rfl), ⟨by decide, by decide, by decide +kernel⟩, by decide⟩
theorem cv_X6_49 : gCS RX6 49 yJ6_bitCount_0f7a4 cJ6_bitCount_0f7a4 1 (some .int) 1 := ⟨(gm_3 11 rfl rfl), (gm_2 130 rfl rfl), (gm_1 11 rfl rfl), (gm_2 131 rfl rfl), ⟨by decide, by decide, by decide +kernel⟩, by decide⟩
theorem cv_X6_55 : gCS RX6 55 yJ9_max_7cf53 cJ9_max_7cf53 2 (some .int) 2 := ⟨(gm_3 12 rfl rfl), (gm_3 13 rfl rfl), (gm_1 10 rfl rfl), (gm_3 14 rfl rfl), ⟨by decide, by decide, by decide +kernel⟩, by decide⟩
theorem cv_X6_61 : gCV RX6 61 yX5_findSingers cX5_findSingers 5 (some .int) 2 5 := ⟨TX5, 5, rfl, (gm_3 6 rfl rfl), (gm_2 210 rfl rfl), (gm_2 211 rfl rfl), (gm_1 7 rfl rfl), (gm_2 212 rfl rfl), ⟨by decide, by decide, by decide +kernel⟩, by decide⟩
/-! ===== the class's timetable ===== -/
def gS25 (s : gS) (d p : Int) : Int := gsing s.2 19 20 21 22 (s.2 24 p) d (s.1 6 4)
def gM (s : gS) (d p q : Int) : Prop := s.2 24 p = s.2 24 q ∨ ¬ gand (gS25 s d p) (gS25 s d q) = 0
theorem gM_comm {s : gS} {d p q : Int} (h : gM s d p q) : gM s d q p := by
  rcases h with h | h
  · exact Or.inl h.symm
  · exact Or.inr (by rw [gand_comm]; exact h)
def gcl (s : gS) (p q : Int) : Prop := gbit (s.2 26 p) q = 1
def goff3 (s t : gS) (k l m : Int) : Prop := t.1 = s.1 ∧ ∀ k' : Int, k' ≠ k → k' ≠ l → k' ≠ m → t.2 k' = s.2 k'
def gclash (s t : gS) (d : Int) : Prop := goff3 s t 25 26 27 ∧ (∀ p : Int, 0 ≤ p → p < s.1 7 1 → t.2 27 p = 0) ∧ ∀ p q : Int, 0 ≤ p → p < s.1 7 1 → 0 ≤ q → q < 32 → (gbit (t.2 26 p) q = 1 ↔ (q < s.1 7 1 ∧ ¬ p = q ∧ gM s d p q))
def gCb (s : gS) : Prop := (∀ p q : Int, 0 ≤ p → p < s.1 7 1 → 0 ≤ q → q < s.1 7 1 → gcl s p q → gcl s q p) ∧ ∀ p : Int, 0 ≤ p → p < s.1 7 1 → ¬ gcl s p p
def gneed (s : gS) (v : Int) : Prop := gneedX (gcl s) (s.1 7 1) v
def gSt (s : gS) (i o m : Int) : Prop := (0 ≤ i ∧ i ≤ s.1 7 1) ∧ (s.1 7 1 ≤ 12) ∧ m ≤ s.1 7 1 ∧ (1 ≤ s.1 7 2 ∧ s.1 7 2 ≤ 4) ∧ rng m ∧ o = gop (s.2 23) i ∧ gval (gcl s) (s.1 7 2) m (s.2 23) i ∧ ∀ h q : Int, 0 ≤ h → h < m → 0 ≤ q → q < 32 → (gbit (s.2 27 h) q = 1 ↔ (q < i ∧ s.2 23 q = h))
def gStood (s t : gS) (i m v : Int) : Prop := goff2 s t 23 27 ∧ gext (s.2 23) (t.2 23) i ∧ (v = 0 ∨ v = 1) ∧ (v = 1 → glex (gcl s) (s.1 7 2) m (s.1 7 1) i (t.2 23)) ∧ (v = 0 → gnone (gcl s) (s.1 7 2) m (s.1 7 1) i (s.2 23) ∧ ∀ h : Int, t.2 27 h = s.2 27 h)
def cTt (s : gS) : Prop := (0 ≤ s.1 7 1 ∧ s.1 7 1 ≤ 12) ∧ (1 ≤ s.1 7 2 ∧ s.1 7 2 ≤ 4)
def ghours (s t : gS) (d v : Int) : Prop := (∀ (k : Int) (j : Nat), ¬ (k = 7 ∧ j = 3) → t.1 k j = s.1 k j) ∧ t.1 7 3 = s.1 7 1 ∧ (∀ k' : Int, k' ≠ 23 → k' ≠ 25 → k' ≠ 26 → k' ≠ 27 → t.2 k' = s.2 k') ∧ gbest (gM s d) (s.1 7 2) (s.1 7 1) v (t.2 23)
set_option maxRecDepth 100000 in
set_option maxHeartbeats 4000000 in
theorem bk_X6_addPerformance_0 {X : gX} {G : gG} (hX : gOk X G cX6_addPerformance 2 RX6 (some .int) 1) {Q : Int → gS → Prop} (hE : gEnd X G (gPi (fun v s' => Q v s' ∧ gRg s'))) (s : gS) (hs : gRg s) (x1 : Int)  (h : (0 ≤ (s.1 7 1) ∧ (s.1 7 1) < 12) ∧ (rng x1) ∧ (rng ((s.1 7 1) + 1)) ∧ Q (((s.1 7 1) + 1) - 1) (gpI (gpA s 24 (s.1 7 1) x1) 7 1 ((s.1 7 1) + 1))) : gWL X G s 0 [(0, gR G 7), (1, vi x1)] [] := by
  refine g_aload_n hX dX6_addPerformance_0 0 rfl ?_
  refine g_getR hX sh_7 4 rfl fl_X6_25 dX6_addPerformance_1 ?_
  refine g_aload_n hX dX6_addPerformance_4 0 rfl ?_
  refine g_getI hX sh_7 1 rfl fl_X6_15 dX6_addPerformance_5 ?_
  refine g_iload_n hX dX6_addPerformance_8 1 rfl ?_
  obtain ⟨h1, h⟩ := h
  obtain ⟨h2, h⟩ := h
  refine g_iast hX sh_24 h1 (by decide) dX6_addPerformance_9 ?_
  refine g_aload_n hX dX6_addPerformance_10 0 rfl ?_
  refine g_dup hX rfl dX6_addPerformance_11 ?_
  refine g_getI hX sh_7 1 rfl fl_X6_15 dX6_addPerformance_12 ?_
  refine g_iconst hX dX6_addPerformance_15 ?_
  refine g_iadd hX dX6_addPerformance_16 ?_
  obtain ⟨h3, h⟩ := h
  refine g_putI hX sh_7 1 rfl fl_X6_15 (fun _ _ _ e => by cases e; rfl) dX6_addPerformance_17 ?_
  refine g_aload_n hX dX6_addPerformance_20 0 rfl ?_
  refine g_getI hX sh_7 1 rfl fl_X6_15 dX6_addPerformance_21 ?_
  refine g_top gpI_eq ?_
  refine g_iconst hX dX6_addPerformance_24 ?_
  refine g_isub hX dX6_addPerformance_25 ?_
  exact g_iret hX hE dX6_addPerformance_26 ⟨h, (gRg_I (gRg_A hs h2) h3)⟩
set_option maxRecDepth 100000 in
set_option maxHeartbeats 4000000 in
theorem c_X6_addPerformance (l : Launch) {G : gG} (hG : gInj G) (s : gS) (x1 : Int) (p0 : gRg s) (p1 : rng x1) (p2 : 0 ≤ (s.1 7 1) ∧ (s.1 7 1) < 12) : gMet l G yX6_addPerformance cX6_addPerformance 2 (some .int) 1 [gR G 7, vi x1] s (gPi (fun v s' => (v = (s.1 7 1) ∧ s' = gpI (gpA s 24 (s.1 7 1) x1) 7 1 ((s.1 7 1) + 1)) ∧ gRg s')) := by
  refine gMet_of (plainFor_of_name (by decide)) hG (Nat.le_of_ble_eq_true rfl) (fun X hX hE => ?_)
  refine bk_X6_addPerformance_0 hX hE s p0 x1  ?_
  exact ⟨p2, p1, rng_of (by omega) (by omega), by omega, rfl⟩
set_option maxRecDepth 100000 in
set_option maxHeartbeats 4000000 in
theorem bk_X6_findClashes_0 {X : gX} {G : gG} (hX : gOk X G cX6_findClashes 5 RX6 none 3) {Q : gS → Prop} (hE : gEnd X G (gPv (fun s' => Q s' ∧ gRg s'))) (s : gS) (hs : gRg s) (x2 : Int)  (h : gWL X G s 2 [(0, gR G 7), (1, gR G 6), (2, vi x2), (3, vi 0)] []) : gWL X G s 0 [(0, gR G 7), (1, gR G 6), (2, vi x2)] [] := by
  refine g_iconst hX dX6_findClashes_0 ?_
  refine g_istore_n (loc' := [(3, vi 0), (0, gR G 7), (1, gR G 6), (2, vi x2)]) hX dX6_findClashes_1 (by decide) rfl ?_
  exact g_sub [1, 2, 3, 0] rfl h
set_option maxRecDepth 100000 in
set_option maxHeartbeats 4000000 in
theorem bk_X6_findClashes_2 {X : gX} {G : gG} (hX : gOk X G cX6_findClashes 5 RX6 none 3) {Q : gS → Prop} (hE : gEnd X G (gPv (fun s' => Q s' ∧ gRg s'))) (s : gS) (hs : gRg s) (x2 : Int) (x3 : Int)  (h : (rng x3) ∧ (((s.1 7 1) ≤ x3 → Q s) ∧ (x3 < (s.1 7 1) → (0 ≤ x3 ∧ x3 < 12) ∧ (rng x2) ∧ (0 ≤ (s.1 6 4) ∧ (s.1 6 4) ≤ 60) ∧ (rng (gsing s.2 19 20 21 22 (s.2 24 x3) x2 (s.1 6 4))) ∧ gWL X G (gpA (gpA (gpA s 25 x3 (gsing s.2 19 20 21 22 (s.2 24 x3) x2 (s.1 6 4))) 26 x3 0) 27 x3 0) 44 [(0, gR G 7), (1, gR G 6), (2, vi x2), (3, vi x3), (4, vi 0)] []))) : gWL X G s 2 [(0, gR G 7), (1, gR G 6), (2, vi x2), (3, vi x3)] [] := by
  refine g_iload_n hX dX6_findClashes_2 3 rfl ?_
  refine g_aload_n hX dX6_findClashes_3 0 rfl ?_
  refine g_getI hX sh_7 1 rfl fl_X6_15 dX6_findClashes_4 ?_
  obtain ⟨h1, h⟩ := h
  refine g_icge (tgt := 121) hX h1 (hs.1 _ _) dX6_findClashes_7 (by decide) (fun c2 => ?_) (fun c2 => ?_)
  · replace h := h.1 c2
    exact g_vret hX hE dX6_findClashes_121 ⟨h, hs⟩
  · replace h := h.2 (Int.not_le.mp c2)
    refine g_aload_n hX dX6_findClashes_10 0 rfl ?_
    refine g_getR hX sh_7 5 rfl fl_X6_28 dX6_findClashes_11 ?_
    refine g_iload_n hX dX6_findClashes_14 3 rfl ?_
    refine g_aload_n hX dX6_findClashes_15 1 rfl ?_
    refine g_aload_n hX dX6_findClashes_16 0 rfl ?_
    refine g_getR hX sh_7 4 rfl fl_X6_25 dX6_findClashes_17 ?_
    refine g_iload_n hX dX6_findClashes_20 3 rfl ?_
    obtain ⟨h3, h⟩ := h
    refine g_iald hX sh_24 h3 (by decide) dX6_findClashes_21 ?_
    refine g_iload_n hX dX6_findClashes_22 2 rfl ?_
    obtain ⟨h4, h⟩ := h
    obtain ⟨h5, h⟩ := h
    refine g_cVf (As := [vi (s.2 24 x3), vi x2]) hX (fun l => c_X5_findSingers l hX.inj s (s.2 24 x3) x2 hs (hs.2 _ _) h4 h5) sh_6 cv_X6_61 (by decide) rfl (Nat.le_of_ble_eq_true rfl) dX6_findClashes_23 rfl (fun g6 => ?_)
    obtain ⟨h7, h⟩ := h
    refine g_iast hX sh_25 h3 (by decide) dX6_findClashes_26 ?_
    refine g_aload_n hX dX6_findClashes_27 0 rfl ?_
    refine g_getR hX sh_7 6 rfl fl_X6_31 dX6_findClashes_28 ?_
    refine g_iload_n hX dX6_findClashes_31 3 rfl ?_
    refine g_iconst hX dX6_findClashes_32 ?_
    refine g_iast hX sh_26 h3 (by decide) dX6_findClashes_33 ?_
    refine g_aload_n hX dX6_findClashes_34 0 rfl ?_
    refine g_getR hX sh_7 7 rfl fl_X6_34 dX6_findClashes_35 ?_
    refine g_iload_n hX dX6_findClashes_38 3 rfl ?_
    refine g_iconst hX dX6_findClashes_39 ?_
    refine g_iast hX sh_27 h3 (by decide) dX6_findClashes_40 ?_
    refine g_iconst hX dX6_findClashes_41 ?_
    refine g_istore (loc' := [(4, vi 0), (0, gR G 7), (1, gR G 6), (2, vi x2), (3, vi x3)]) hX dX6_findClashes_42 (by decide) rfl ?_
    exact g_sub [1, 2, 3, 4, 0] rfl h
set_option maxRecDepth 100000 in
set_option maxHeartbeats 4000000 in
theorem bk_X6_findClashes_44 {X : gX} {G : gG} (hX : gOk X G cX6_findClashes 5 RX6 none 3) {Q : gS → Prop} (hE : gEnd X G (gPv (fun s' => Q s' ∧ gRg s'))) (s : gS) (hs : gRg s) (x2 : Int) (x3 : Int) (x4 : Int)  (h : (rng x4) ∧ (rng x3) ∧ ((x3 ≤ x4 → gWL X G s 2 [(0, gR G 7), (1, gR G 6), (2, vi x2), (3, vi (x3 + 1))] []) ∧ (x4 < x3 → (0 ≤ x4 ∧ x4 < 12) ∧ (0 ≤ x3 ∧ x3 < 12) ∧ (((s.2 24 x4) = (s.2 24 x3) → gWL X G (gpA (gpA s 26 x3 (gor (s.2 26 x3) (gshl 1 x4))) 26 x4 (gor ((gpA s 26 x3 (gor (s.2 26 x3) (gshl 1 x4))).2 26 x4) (gshl 1 x3))) 44 [(0, gR G 7), (1, gR G 6), (2, vi x2), (3, vi x3), (4, vi (x4 + 1))] []) ∧ (¬ ((s.2 24 x4) = (s.2 24 x3)) → (((gand (s.2 25 x4) (s.2 25 x3)) = 0 → gWL X G s 44 [(0, gR G 7), (1, gR G 6), (2, vi x2), (3, vi x3), (4, vi (x4 + 1))] []) ∧ (¬ ((gand (s.2 25 x4) (s.2 25 x3)) = 0) → gWL X G (gpA (gpA s 26 x3 (gor (s.2 26 x3) (gshl 1 x4))) 26 x4 (gor ((gpA s 26 x3 (gor (s.2 26 x3) (gshl 1 x4))).2 26 x4) (gshl 1 x3))) 44 [(0, gR G 7), (1, gR G 6), (2, vi x2), (3, vi x3), (4, vi (x4 + 1))] []))))))) : gWL X G s 44 [(0, gR G 7), (1, gR G 6), (2, vi x2), (3, vi x3), (4, vi x4)] [] := by
  refine g_iload hX dX6_findClashes_44 4 rfl ?_
  refine g_iload_n hX dX6_findClashes_46 3 rfl ?_
  obtain ⟨h1, h⟩ := h
  obtain ⟨h2, h⟩ := h
  refine g_icge (tgt := 115) hX h1 h2 dX6_findClashes_47 (by decide) (fun c3 => ?_) (fun c3 => ?_)
  · replace h := h.1 c3
    refine g_iinc (loc' := [(3, vi (x3 + 1)), (0, gR G 7), (1, gR G 6), (2, vi x2), (4, vi x4)]) hX dX6_findClashes_115 3 rfl (by decide) rfl ?_
    refine g_goto (tgt := 2) hX dX6_findClashes_118 (by decide) ?_
    exact g_sub [1, 2, 3, 0] rfl h
  · replace h := h.2 (Int.not_le.mp c3)
    refine g_aload_n hX dX6_findClashes_50 0 rfl ?_
    refine g_getR hX sh_7 4 rfl fl_X6_25 dX6_findClashes_51 ?_
    refine g_iload hX dX6_findClashes_54 4 rfl ?_
    obtain ⟨h4, h⟩ := h
    refine g_iald hX sh_24 h4 (by decide) dX6_findClashes_56 ?_
    refine g_aload_n hX dX6_findClashes_57 0 rfl ?_
    refine g_getR hX sh_7 4 rfl fl_X6_25 dX6_findClashes_58 ?_
    refine g_iload_n hX dX6_findClashes_61 3 rfl ?_
    obtain ⟨h5, h⟩ := h
    refine g_iald hX sh_24 h5 (by decide) dX6_findClashes_62 ?_
    refine g_iceq (tgt := 83) hX (hs.2 _ _) (hs.2 _ _) dX6_findClashes_63 (by decide) (fun c6 => ?_) (fun c6 => ?_)
    · replace h := h.1 c6
      refine g_aload_n hX dX6_findClashes_83 0 rfl ?_
      refine g_getR hX sh_7 6 rfl fl_X6_31 dX6_findClashes_84 ?_
      refine g_iload_n hX dX6_findClashes_87 3 rfl ?_
      refine g_dup2 hX rfl rfl dX6_findClashes_88 ?_
      refine g_iald hX sh_26 h5 (by decide) dX6_findClashes_89 ?_
      refine g_iconst hX dX6_findClashes_90 ?_
      refine g_iload hX dX6_findClashes_91 4 rfl ?_
      refine g_ishl hX dX6_findClashes_93 ?_
      refine g_ior hX dX6_findClashes_94 ?_
      refine g_iast hX sh_26 h5 (by decide) dX6_findClashes_95 ?_
      refine g_aload_n hX dX6_findClashes_96 0 rfl ?_
      refine g_getR hX sh_7 6 rfl fl_X6_31 dX6_findClashes_97 ?_
      refine g_iload hX dX6_findClashes_100 4 rfl ?_
      refine g_dup2 hX rfl rfl dX6_findClashes_102 ?_
      refine g_iald hX sh_26 h4 (by decide) dX6_findClashes_103 ?_
      refine g_iconst hX dX6_findClashes_104 ?_
      refine g_iload_n hX dX6_findClashes_105 3 rfl ?_
      refine g_ishl hX dX6_findClashes_106 ?_
      refine g_ior hX dX6_findClashes_107 ?_
      refine g_iast hX sh_26 h4 (by decide) dX6_findClashes_108 ?_
      refine g_iinc (loc' := [(4, vi (x4 + 1)), (0, gR G 7), (1, gR G 6), (2, vi x2), (3, vi x3)]) hX dX6_findClashes_109 4 rfl (by decide) rfl ?_
      refine g_goto (tgt := 44) hX dX6_findClashes_112 (by decide) ?_
      exact g_sub [1, 2, 3, 4, 0] rfl h
    · replace h := h.2 c6
      refine g_aload_n hX dX6_findClashes_66 0 rfl ?_
      refine g_getR hX sh_7 5 rfl fl_X6_28 dX6_findClashes_67 ?_
      refine g_iload hX dX6_findClashes_70 4 rfl ?_
      refine g_iald hX sh_25 h4 (by decide) dX6_findClashes_72 ?_
      refine g_aload_n hX dX6_findClashes_73 0 rfl ?_
      refine g_getR hX sh_7 5 rfl fl_X6_28 dX6_findClashes_74 ?_
      refine g_iload_n hX dX6_findClashes_77 3 rfl ?_
      refine g_iald hX sh_25 h5 (by decide) dX6_findClashes_78 ?_
      refine g_iand hX dX6_findClashes_79 ?_
      refine g_ifeq (tgt := 109) hX (rng_i _) dX6_findClashes_80 (by decide) (fun c7 => ?_) (fun c7 => ?_)
      · replace h := h.1 c7
        refine g_iinc (loc' := [(4, vi (x4 + 1)), (0, gR G 7), (1, gR G 6), (2, vi x2), (3, vi x3)]) hX dX6_findClashes_109 4 rfl (by decide) rfl ?_
        refine g_goto (tgt := 44) hX dX6_findClashes_112 (by decide) ?_
        exact g_sub [1, 2, 3, 4, 0] rfl h
      · replace h := h.2 c7
        refine g_aload_n hX dX6_findClashes_83 0 rfl ?_
        refine g_getR hX sh_7 6 rfl fl_X6_31 dX6_findClashes_84 ?_
        refine g_iload_n hX dX6_findClashes_87 3 rfl ?_
        refine g_dup2 hX rfl rfl dX6_findClashes_88 ?_
        refine g_iald hX sh_26 h5 (by decide) dX6_findClashes_89 ?_
        refine g_iconst hX dX6_findClashes_90 ?_
        refine g_iload hX dX6_findClashes_91 4 rfl ?_
        refine g_ishl hX dX6_findClashes_93 ?_
        refine g_ior hX dX6_findClashes_94 ?_
        refine g_iast hX sh_26 h5 (by decide) dX6_findClashes_95 ?_
        refine g_aload_n hX dX6_findClashes_96 0 rfl ?_
        refine g_getR hX sh_7 6 rfl fl_X6_31 dX6_findClashes_97 ?_
        refine g_iload hX dX6_findClashes_100 4 rfl ?_
        refine g_dup2 hX rfl rfl dX6_findClashes_102 ?_
        refine g_iald hX sh_26 h4 (by decide) dX6_findClashes_103 ?_
        refine g_iconst hX dX6_findClashes_104 ?_
        refine g_iload_n hX dX6_findClashes_105 3 rfl ?_
        refine g_ishl hX dX6_findClashes_106 ?_
        refine g_ior hX dX6_findClashes_107 ?_
        refine g_iast hX sh_26 h4 (by decide) dX6_findClashes_108 ?_
        refine g_iinc (loc' := [(4, vi (x4 + 1)), (0, gR G 7), (1, gR G 6), (2, vi x2), (3, vi x3)]) hX dX6_findClashes_109 4 rfl (by decide) rfl ?_
        refine g_goto (tgt := 44) hX dX6_findClashes_112 (by decide) ?_
        exact g_sub [1, 2, 3, 4, 0] rfl h
def gcI (s t : gS) (d i j : Int) : Prop := goff3 s t 25 26 27 ∧ gRg t ∧ (∀ p : Int, 0 ≤ p → p < i → t.2 27 p = 0) ∧ (∀ p : Int, 0 ≤ p → p < i → t.2 25 p = gS25 s d p) ∧ ∀ p q : Int, 0 ≤ p → p < i → 0 ≤ q → q < 32 → (gbit (t.2 26 p) q = 1 ↔ (q < i ∧ (q + 1 < i ∧ p + 1 < i ∨ p < j ∨ q < j) ∧ ¬ p = q ∧ gM s d p q))
theorem gS25_off {s t : gS} {d p : Int} (h : goff3 s t 25 26 27) : gS25 t d p = gS25 s d p := by
  unfold gS25 gsing
  rw [h.1, h.2 19 (by decide) (by decide) (by decide), h.2 20 (by decide) (by decide) (by decide), h.2 21 (by decide) (by decide) (by decide), h.2 22 (by decide) (by decide) (by decide), h.2 24 (by decide) (by decide) (by decide)]
theorem goff3.put {s t : gS} {k l m : Int} (h : goff3 s t k l m) {k' : Int} (hk : k' = k ∨ k' = l ∨ k' = m) (i v : Int) : goff3 s (gpA t k' i v) k l m := ⟨h.1, fun x a b c => by
  funext y
  rw [gpA_nk (by omega)]
  exact congrFun (h.2 x a b c) y⟩
set_option maxRecDepth 100000 in
set_option maxHeartbeats 4000000 in
theorem c_X6_findClashes (l : Launch) {G : gG} (hG : gInj G) (s : gS) (_ : Int) (x2 : Int) (p0 : gRg s) (p1 : rng x2) (p2 : 0 ≤ (s.1 7 1) ∧ (s.1 7 1) ≤ 12) (p3 : 0 ≤ (s.1 6 4) ∧ (s.1 6 4) ≤ 60) : gMet l G yX6_findClashes cX6_findClashes 5 none 3 [gR G 7, gR G 6, vi x2] s (gPv (fun s' => (gclash s s' x2) ∧ gRg s')) := by
  refine gMet_of (plainFor_of_name (by decide)) hG (Nat.le_of_ble_eq_true rfl) (fun X hX hE => ?_)
  refine bk_X6_findClashes_0 hX hE s p0 x2  ?_
  refine gloop (α := gS) (hi := s.1 7 1) (fun i t => 0 ≤ i ∧ gcI s t x2 i i) (fun i t => gWL X G t 2 [(0, gR G 7), (1, gR G 6), (2, vi x2), (3, vi i)] []) ?_ ?_ 0 s p2.1 ⟨by omega, ⟨rfl, fun _ _ _ _ => rfl⟩, p0, fun p a b => by omega, fun p a b => by omega, fun p q a b => by omega⟩
  · intro i t hi ⟨h0, hI⟩ next
    obtain ⟨hoff, hr, h27, h25, h26⟩ := hI
    have e1 : t.1 = s.1 := hoff.1
    have eS : gsing t.2 19 20 21 22 (t.2 24 i) x2 (t.1 6 4) = gS25 s x2 i := gS25_off hoff
    refine bk_X6_findClashes_2 hX hE t hr x2 i ⟨rng_of (by omega) (by omega), fun h => by rw [e1] at h; omega, fun _ => ⟨by omega, p1, by rw [e1]; exact p3, gsing_rng _ _ _ _ _ _ _ _, ?_⟩⟩
    rw [eS]
    refine gloop (α := gS) (hi := i) (fun j u => 0 ≤ j ∧ gcI s u x2 (i + 1) j) (fun j u => gWL X G u 44 [(0, gR G 7), (1, gR G 6), (2, vi x2), (3, vi i), (4, vi j)] []) ?_ ?_ 0 _ h0 ⟨by omega, ?_⟩
    · intro j u hj ⟨j0, uoff, ur, u27, u25, u26⟩ nextj
      have e24 : u.2 24 = s.2 24 := uoff.2 24 (by decide) (by decide) (by decide)
      have put : gM s x2 j i → gcI s (gpA (gpA u 26 i (gor (u.2 26 i) (gshl 1 j))) 26 j (gor ((gpA u 26 i (gor (u.2 26 i) (gshl 1 j))).2 26 j) (gshl 1 i))) x2 (i + 1) (j + 1) := by
        intro hm
        refine ⟨(uoff.put (by omega) _ _).put (by omega) _ _, gRg_A (gRg_A ur (rng_i _)) (rng_i _), fun p a b => ?_, fun p a b => ?_, fun p q a b c d => ?_⟩
        · rw [gpA_nk (by omega), gpA_nk (by omega)]; exact u27 p a b
        · rw [gpA_nk (by omega), gpA_nk (by omega)]; exact u25 p a b
        · by_cases ej : p = j
          · subst ej
            rw [gpA_eq, gpA_ni (by omega), gbit_or_shl (by omega) (by omega) c d]
            by_cases eq : q = i
            · subst eq
              rw [if_pos rfl]
              exact ⟨fun _ => ⟨by omega, by omega, by omega, hm⟩, fun _ => rfl⟩
            · rw [if_neg eq, u26 p q a b c d]
              constructor
              · rintro ⟨z1, z2, z3, z4⟩; exact ⟨z1, by omega, z3, z4⟩
              · rintro ⟨z1, z2, z3, z4⟩; exact ⟨z1, by omega, z3, z4⟩
          · rw [gpA_ni ej]
            by_cases ei : p = i
            · subst ei
              rw [gpA_eq, gbit_or_shl (by omega) (by omega) c d]
              by_cases eq : q = j
              · subst eq
                rw [if_pos rfl]
                exact ⟨fun _ => ⟨by omega, by omega, by omega, gM_comm hm⟩, fun _ => rfl⟩
              · rw [if_neg eq, u26 p q a b c d]
                constructor
                · rintro ⟨z1, z2, z3, z4⟩; exact ⟨z1, by omega, z3, z4⟩
                · rintro ⟨z1, z2, z3, z4⟩; exact ⟨z1, by omega, z3, z4⟩
            · rw [gpA_ni ei, u26 p q a b c d]
              constructor
              · rintro ⟨z1, z2, z3, z4⟩; exact ⟨z1, by omega, z3, z4⟩
              · rintro ⟨z1, z2, z3, z4⟩; exact ⟨z1, by omega, z3, z4⟩
      have keep : ¬ gM s x2 j i → gcI s u x2 (i + 1) (j + 1) := by
        intro hm
        refine ⟨uoff, ur, u27, u25, fun p q a b c d => ?_⟩
        rw [u26 p q a b c d]
        constructor
        · rintro ⟨z1, z2, z3, z4⟩; exact ⟨z1, by omega, z3, z4⟩
        · rintro ⟨z1, z2, z3, z4⟩
          refine ⟨z1, ?_, z3, z4⟩
          by_cases k1 : p = j ∧ q = i
          · rw [k1.1, k1.2] at z4; exact absurd z4 hm
          · by_cases k2 : q = j ∧ p = i
            · rw [k2.1, k2.2] at z4; exact absurd (gM_comm z4) hm
            · omega
      refine bk_X6_findClashes_44 hX hE u ur x2 i j ⟨rng_of (by omega) (by omega), rng_of (by omega) (by omega), fun h => by omega, fun _ => ⟨by omega, by omega, fun h => ?_, fun h => ⟨fun h2 => ?_, fun h2 => ?_⟩⟩⟩
      · exact nextj _ ⟨by omega, put (Or.inl (by rw [e24] at h; exact h))⟩
      · refine nextj _ ⟨by omega, keep ?_⟩
        rintro (z | z)
        · rw [e24] at h; exact h z
        · rw [u25 j j0 (by omega), u25 i h0 (by omega)] at h2; exact z h2
      · refine nextj _ ⟨by omega, put (Or.inr ?_)⟩
        rw [u25 j j0 (by omega), u25 i h0 (by omega)] at h2; exact h2
    · intro u ⟨j0, uoff, ur, u27, u25, u26⟩
      refine bk_X6_findClashes_44 hX hE u ur x2 i i ⟨rng_of (by omega) (by omega), rng_of (by omega) (by omega), fun h => next _ ⟨by omega, uoff, ur, u27, u25, fun p q a b c d => ?_⟩, fun h => by omega⟩
      rw [u26 p q a b c d]
      constructor
      · rintro ⟨z1, z2, z3, z4⟩; exact ⟨z1, by omega, z3, z4⟩
      · rintro ⟨z1, z2, z3, z4⟩; exact ⟨z1, by omega, z3, z4⟩
    · refine ⟨((hoff.put (by omega) _ _).put (by omega) _ _).put (by omega) _ _, gRg_A (gRg_A (gRg_A hr (gsing_rng _ _ _ _ _ _ _ _)) rng_0) rng_0, fun p a b => ?_, fun p a b => ?_, fun p q a b c d => ?_⟩
      · by_cases ei : p = i
        · subst ei; rw [gpA_eq]
        · rw [gpA_ni ei, gpA_nk (by omega), gpA_nk (by omega)]; exact h27 p a (by omega)
      · rw [gpA_nk (by omega), gpA_nk (by omega)]
        by_cases ei : p = i
        · subst ei; rw [gpA_eq]
        · rw [gpA_ni ei]; exact h25 p a (by omega)
      · rw [gpA_nk (by omega)]
        by_cases ei : p = i
        · subst ei
          rw [gpA_eq, gbit_0 c d]
          exact ⟨fun z => by omega, fun ⟨z1, z2, z3, z4⟩ => by omega⟩
        · rw [gpA_ni ei, gpA_nk (by omega), h26 p q a (by omega) c d]
          constructor
          · rintro ⟨z1, z2, z3, z4⟩; exact ⟨by omega, by omega, z3, z4⟩
          · rintro ⟨z1, z2, z3, z4⟩; exact ⟨by omega, by omega, z3, z4⟩
  · intro t ⟨h0, hoff, hr, h27, h25, h26⟩
    refine bk_X6_findClashes_2 hX hE t hr x2 _ ⟨rng_of (by omega) (by omega), fun _ => ⟨hoff, h27, fun p q a b c d => ?_⟩, fun h => by rw [hoff.1] at h; omega⟩
    rw [h26 p q a b c d]
    constructor
    · rintro ⟨z1, z2, z3, z4⟩; exact ⟨z1, z3, z4⟩
    · rintro ⟨z1, z3, z4⟩; exact ⟨z1, by omega, z3, z4⟩
set_option maxRecDepth 100000 in
set_option maxHeartbeats 4000000 in
theorem bk_X6_countNeeded_0 {X : gX} {G : gG} (hX : gOk X G cX6_countNeeded 5 RX6 (some .int) 2) {Q : Int → gS → Prop} (hE : gEnd X G (gPi (fun v s' => Q v s' ∧ gRg s'))) (s : gS) (hs : gRg s)   (h : gWL X G s 4 [(0, gR G 7), (1, vi 0), (2, vi 0)] []) : gWL X G s 0 [(0, gR G 7)] [] := by
  refine g_iconst hX dX6_countNeeded_0 ?_
  refine g_istore_n (loc' := [(1, vi 0), (0, gR G 7)]) hX dX6_countNeeded_1 (by decide) rfl ?_
  refine g_iconst hX dX6_countNeeded_2 ?_
  refine g_istore_n (loc' := [(2, vi 0), (1, vi 0), (0, gR G 7)]) hX dX6_countNeeded_3 (by decide) rfl ?_
  exact g_sub [2, 1, 0] rfl h
set_option maxRecDepth 100000 in
set_option maxHeartbeats 4000000 in
theorem bk_X6_countNeeded_4 {X : gX} {G : gG} (hX : gOk X G cX6_countNeeded 5 RX6 (some .int) 2) {Q : Int → gS → Prop} (hE : gEnd X G (gPi (fun v s' => Q v s' ∧ gRg s'))) (s : gS) (hs : gRg s) (x1 : Int) (x2 : Int)  (h : (rng x2) ∧ (((s.1 7 1) ≤ x2 → Q x1 s) ∧ (x2 < (s.1 7 1) → gWL X G s 19 [(0, gR G 7), (1, vi x1), (2, vi x2), (3, vi (gshl 1 x2)), (4, vi 0)] []))) : gWL X G s 4 [(0, gR G 7), (1, vi x1), (2, vi x2)] [] := by
  refine g_iload_n hX dX6_countNeeded_4 2 rfl ?_
  refine g_aload_n hX dX6_countNeeded_5 0 rfl ?_
  refine g_getI hX sh_7 1 rfl fl_X6_15 dX6_countNeeded_6 ?_
  obtain ⟨h1, h⟩ := h
  refine g_icge (tgt := 70) hX h1 (hs.1 _ _) dX6_countNeeded_9 (by decide) (fun c2 => ?_) (fun c2 => ?_)
  · replace h := h.1 c2
    refine g_iload_n hX dX6_countNeeded_70 1 rfl ?_
    exact g_iret hX hE dX6_countNeeded_71 ⟨h, hs⟩
  · replace h := h.2 (Int.not_le.mp c2)
    refine g_iconst hX dX6_countNeeded_12 ?_
    refine g_iload_n hX dX6_countNeeded_13 2 rfl ?_
    refine g_ishl hX dX6_countNeeded_14 ?_
    refine g_istore_n (loc' := [(3, vi (gshl 1 x2)), (0, gR G 7), (1, vi x1), (2, vi x2)]) hX dX6_countNeeded_15 (by decide) rfl ?_
    refine g_iconst hX dX6_countNeeded_16 ?_
    refine g_istore (loc' := [(4, vi 0), (3, vi (gshl 1 x2)), (0, gR G 7), (1, vi x1), (2, vi x2)]) hX dX6_countNeeded_17 (by decide) rfl ?_
    exact g_sub [2, 3, 4, 1, 0] rfl h
set_option maxRecDepth 100000 in
set_option maxHeartbeats 4000000 in
theorem bk_X6_countNeeded_19 {X : gX} {G : gG} (hX : gOk X G cX6_countNeeded 5 RX6 (some .int) 2) {Q : Int → gS → Prop} (hE : gEnd X G (gPi (fun v s' => Q v s' ∧ gRg s'))) (s : gS) (hs : gRg s) (x1 : Int) (x2 : Int) (x3 : Int) (x4 : Int)  (h : (rng x4) ∧ (((s.1 7 1) ≤ x4 → (rng x1) ∧ (rng (gbits x3)) ∧ gWL X G s 4 [(0, gR G 7), (1, vi (max x1 (gbits x3))), (2, vi (x2 + 1))] []) ∧ (x4 < (s.1 7 1) → (0 ≤ x4 ∧ x4 < 12) ∧ ((¬ (gand x3 (gxor (s.2 26 x4) (-1))) = 0 → gWL X G s 19 [(0, gR G 7), (1, vi x1), (2, vi x2), (3, vi x3), (4, vi (x4 + 1))] []) ∧ ((gand x3 (gxor (s.2 26 x4) (-1))) = 0 → gWL X G s 19 [(0, gR G 7), (1, vi x1), (2, vi x2), (3, vi (gor x3 (gshl 1 x4))), (4, vi (x4 + 1))] []))))) : gWL X G s 19 [(0, gR G 7), (1, vi x1), (2, vi x2), (3, vi x3), (4, vi x4)] [] := by
  refine g_iload hX dX6_countNeeded_19 4 rfl ?_
  refine g_aload_n hX dX6_countNeeded_21 0 rfl ?_
  refine g_getI hX sh_7 1 rfl fl_X6_15 dX6_countNeeded_22 ?_
  obtain ⟨h1, h⟩ := h
  refine g_icge (tgt := 55) hX h1 (hs.1 _ _) dX6_countNeeded_25 (by decide) (fun c2 => ?_) (fun c2 => ?_)
  · replace h := h.1 c2
    refine g_iload_n hX dX6_countNeeded_55 1 rfl ?_
    refine g_iload_n hX dX6_countNeeded_56 3 rfl ?_
    refine g_cSf (As := [vi x3]) hX (fun l => c_J6_bitCount_0f7a4 l hX.inj s x3 hs) cv_X6_49 (by decide) rfl (Nat.le_of_ble_eq_true rfl) dX6_countNeeded_57 rfl (fun g3 => ?_)
    obtain ⟨h4, h⟩ := h
    obtain ⟨h5, h⟩ := h
    refine g_cSf (As := [vi x1, vi (gbits x3)]) hX (fun l => c_J9_max_7cf53 l hX.inj s x1 (gbits x3) hs h4 h5) cv_X6_55 (by decide) rfl (Nat.le_of_ble_eq_true rfl) dX6_countNeeded_60 rfl (fun g6 => ?_)
    refine g_istore_n (loc' := [(1, vi (max x1 (gbits x3))), (0, gR G 7), (2, vi x2), (3, vi x3), (4, vi x4)]) hX dX6_countNeeded_63 (by decide) rfl ?_
    refine g_iinc (loc' := [(2, vi (x2 + 1)), (1, vi (max x1 (gbits x3))), (0, gR G 7), (3, vi x3), (4, vi x4)]) hX dX6_countNeeded_64 2 rfl (by decide) rfl ?_
    refine g_goto (tgt := 4) hX dX6_countNeeded_67 (by decide) ?_
    exact g_sub [2, 1, 0] rfl h
  · replace h := h.2 (Int.not_le.mp c2)
    refine g_iload_n hX dX6_countNeeded_28 3 rfl ?_
    refine g_aload_n hX dX6_countNeeded_29 0 rfl ?_
    refine g_getR hX sh_7 6 rfl fl_X6_31 dX6_countNeeded_30 ?_
    refine g_iload hX dX6_countNeeded_33 4 rfl ?_
    obtain ⟨h7, h⟩ := h
    refine g_iald hX sh_26 h7 (by decide) dX6_countNeeded_35 ?_
    refine g_iconst hX dX6_countNeeded_36 ?_
    refine g_ixor hX dX6_countNeeded_37 ?_
    refine g_iand hX dX6_countNeeded_38 ?_
    refine g_ifne (tgt := 49) hX (rng_i _) dX6_countNeeded_39 (by decide) (fun c8 => ?_) (fun c8 => ?_)
    · replace h := h.1 c8
      refine g_iinc (loc' := [(4, vi (x4 + 1)), (0, gR G 7), (1, vi x1), (2, vi x2), (3, vi x3)]) hX dX6_countNeeded_49 4 rfl (by decide) rfl ?_
      refine g_goto (tgt := 19) hX dX6_countNeeded_52 (by decide) ?_
      exact g_sub [1, 2, 3, 4, 0] rfl h
    · replace h := h.2 (gnn c8)
      refine g_iload_n hX dX6_countNeeded_42 3 rfl ?_
      refine g_iconst hX dX6_countNeeded_43 ?_
      refine g_iload hX dX6_countNeeded_44 4 rfl ?_
      refine g_ishl hX dX6_countNeeded_46 ?_
      refine g_ior hX dX6_countNeeded_47 ?_
      refine g_istore_n (loc' := [(3, vi (gor x3 (gshl 1 x4))), (0, gR G 7), (1, vi x1), (2, vi x2), (4, vi x4)]) hX dX6_countNeeded_48 (by decide) rfl ?_
      refine g_iinc (loc' := [(4, vi (x4 + 1)), (3, vi (gor x3 (gshl 1 x4))), (0, gR G 7), (1, vi x1), (2, vi x2)]) hX dX6_countNeeded_49 4 rfl (by decide) rfl ?_
      refine g_goto (tgt := 19) hX dX6_countNeeded_52 (by decide) ?_
      exact g_sub [2, 3, 4, 1, 0] rfl h
set_option maxRecDepth 100000 in
set_option maxHeartbeats 4000000 in
theorem c_X6_countNeeded (l : Launch) {G : gG} (hG : gInj G) (s : gS)  (p0 : gRg s) (p1 : 0 ≤ (s.1 7 1) ∧ (s.1 7 1) ≤ 12) (p2 : gCb s) : gMet l G yX6_countNeeded cX6_countNeeded 5 (some .int) 2 [gR G 7] s (gPi (fun v s' => (gneed s v ∧ s' = s) ∧ gRg s')) := by
  refine gMet_of (plainFor_of_name (by decide)) hG (Nat.le_of_ble_eq_true rfl) (fun X hX hE => ?_)
  refine bk_X6_countNeeded_0 hX hE s p0   ?_
  obtain ⟨hsym, hirr⟩ := p2
  refine gloop (α := Int) (hi := s.1 7 1) (fun i v => 0 ≤ i ∧ gneed s v) (fun i v => gWL X G s 4 [(0, gR G 7), (1, vi v), (2, vi i)] []) ?_ ?_ 0 0 p1.1 ⟨by omega, by omega, p1.1, fun m g a _ _ => a⟩
  · intro i v hi ⟨h0, hv⟩ next
    refine bk_X6_countNeeded_4 hX hE s p0 v i ⟨rng_of (by omega) (by omega), fun h => by omega, fun _ => ?_⟩
    refine gloop (α := Int) (hi := s.1 7 1) (fun j b => 0 ≤ j ∧ rng b ∧ (∀ q : Int, s.1 7 1 ≤ q → q < 32 → gbit b q = 0) ∧ ∀ p q : Int, 0 ≤ p → p < s.1 7 1 → 0 ≤ q → q < s.1 7 1 → gbit b p = 1 → gbit b q = 1 → ¬ p = q → gcl s p q) (fun j b => gWL X G s 19 [(0, gR G 7), (1, vi v), (2, vi i), (3, vi b), (4, vi j)] []) ?_ ?_ 0 _ p1.1 ⟨by omega, rng_i _, ?_, ?_⟩
    · intro j b hj ⟨j0, hb, hhi, hc⟩ nextj
      refine bk_X6_countNeeded_19 hX hE s p0 v i b j ⟨rng_of (by omega) (by omega), fun h => by omega, fun _ => ⟨by omega, fun h => nextj _ ⟨by omega, hb, hhi, hc⟩, fun h => nextj _ ⟨by omega, rng_i _, fun q q0 q1 => ?_, ?_⟩⟩⟩
      · rw [gbit_or_shl (by omega) (by omega) (by omega) q1, if_neg (by omega)]; exact hhi q q0 q1
      · have all : ∀ q : Int, 0 ≤ q → q < 32 → gbit b q = 1 → gcl s j q := by
          intro q q0 q1 hq
          have z := gand_0.mp h q q0 q1
          rw [gbit_not q0 q1] at z
          rcases gbit01 (b := s.2 26 j) q0 q1 with k | k
          · exact absurd ⟨hq, by omega⟩ z
          · exact k
        intro p q a b c d hp hq hn
        rw [gbit_or_shl (by omega) (by omega) (by omega) (by omega)] at hp hq
        by_cases ep : p = j
        · subst ep
          rw [if_neg (by omega)] at hq
          exact all q c (by omega) hq
        · rw [if_neg ep] at hp
          by_cases eq : q = j
          · subst eq
            exact hsym _ _ c d a b (all p a (by omega) hp)
          · rw [if_neg eq] at hq
            exact hc p q a b c d hp hq hn
    · intro b ⟨j0, hb, hhi, hc⟩
      have h12 := gb12 hb (fun q a b => hhi q (by omega) b)
      have e : gbits b = gsum (fun k => gbit b k) (s.1 7 1) := by
        rw [gbits_12 h12.1 h12.2]
        exact gsum_tail p1.1 p1.2 (fun q a b => hhi q a (by omega))
      have hn : gneed s (gbits b) := by
        unfold gneed
        rw [e]
        exact gclique (w := fun k => gbit b k) p1.1 (fun q a b => gbit01 a (by omega)) hc
      have n1 := hn.1; have n2 := hn.2.1; have n3 := hv.1; have n4 := hv.2.1
      exact bk_X6_countNeeded_19 hX hE s p0 v i b _ ⟨rng_of (by omega) (by omega), fun _ => ⟨rng_of (by omega) (by omega), rng_of (by omega) (by omega), next _ ⟨by omega, gneedX_max hv hn⟩⟩, fun h => by omega⟩
    · intro q q0 q1
      have e := gbit_or_shl (b := 0) (c := i) (i := q) h0 (by omega) (by omega) q1
      rw [if_neg (by omega), gbit_0 (by omega) q1] at e
      have e2 : gor 0 (gshl 1 i) = gshl 1 i := by
        unfold gor
        rw [show Int32.ofInt 0 = 0 from rfl, Int32.zero_or]
        exact gI_toInt (rng_i _)
      rw [e2] at e; exact e
    · intro p q a b c d hp hq hn
      have f : ∀ q : Int, 0 ≤ q → q < 32 → gbit (gshl 1 i) q = 1 → q = i := by
        intro q q0 q1 z
        rw [gbit_1 q0 q1, gv_1shl h0 (by omega) _ (by omega)] at z
        have := of_decide_eq_true z
        omega
      have f1 := f p a (by omega) hp
      have f2 := f q c (by omega) hq
      omega
  · intro v ⟨h0, hv⟩
    exact bk_X6_countNeeded_4 hX hE s p0 v _ ⟨rng_of (by omega) (by omega), fun _ => ⟨hv, rfl⟩, fun h => by omega⟩
set_option maxRecDepth 100000 in
set_option maxHeartbeats 4000000 in
theorem bk_X6_standsFrom_0 {X : gX} {G : gG} (d : Nat) (hrec : ∀ (l : Launch) (hG : gInj G) (s : gS) (x1 x2 x3 : Int) (p0 : gRg s) (p1 : gSt s x1 x2 x3) (p2 : (s.1 7 1) - x1 < (d : Int)), gMet l G yX6_standsFrom cX6_standsFrom 5 (some .boolean) (d + 1) [gR G 7, vi x1, vi x2, vi x3] s (gPi (fun v t => (gStood s t x1 x3 v) ∧ gRg t))) (hX : gOk X G cX6_standsFrom 5 RX6 (some .boolean) (d + 2)) {Q : Int → gS → Prop} (hE : gEnd X G (gPi (fun v s' => Q v s' ∧ gRg s'))) (s : gS) (hs : gRg s) (x1 : Int) (x2 : Int) (x3 : Int)  (h : (rng x1) ∧ ((x1 < (s.1 7 1) → gWL X G s 13 [(0, gR G 7), (1, vi x1), (2, vi x2), (3, vi x3), (4, vi 0)] []) ∧ ((s.1 7 1) ≤ x1 → Q 1 s))) : gWL X G s 0 [(0, gR G 7), (1, vi x1), (2, vi x2), (3, vi x3)] [] := by
  refine g_iload_n hX dX6_standsFrom_0 1 rfl ?_
  refine g_aload_n hX dX6_standsFrom_1 0 rfl ?_
  refine g_getI hX sh_7 1 rfl fl_X6_15 dX6_standsFrom_2 ?_
  obtain ⟨h1, h⟩ := h
  refine g_iclt (tgt := 10) hX h1 (hs.1 _ _) dX6_standsFrom_5 (by decide) (fun c2 => ?_) (fun c2 => ?_)
  · replace h := h.1 c2
    refine g_iconst hX dX6_standsFrom_10 ?_
    refine g_istore (loc' := [(4, vi 0), (0, gR G 7), (1, vi x1), (2, vi x2), (3, vi x3)]) hX dX6_standsFrom_11 (by decide) rfl ?_
    exact g_sub [1, 2, 3, 4, 0] rfl h
  · replace h := h.2 (Int.not_lt.mp c2)
    refine g_iconst hX dX6_standsFrom_8 ?_
    exact g_zret hX hE (Or.inr rfl) dX6_standsFrom_9 ⟨h, hs⟩
set_option maxRecDepth 100000 in
set_option maxHeartbeats 4000000 in
theorem bk_X6_standsFrom_13 {X : gX} {G : gG} (d : Nat) (hrec : ∀ (l : Launch) (hG : gInj G) (s : gS) (x1 x2 x3 : Int) (p0 : gRg s) (p1 : gSt s x1 x2 x3) (p2 : (s.1 7 1) - x1 < (d : Int)), gMet l G yX6_standsFrom cX6_standsFrom 5 (some .boolean) (d + 1) [gR G 7, vi x1, vi x2, vi x3] s (gPi (fun v t => (gStood s t x1 x3 v) ∧ gRg t))) (hX : gOk X G cX6_standsFrom 5 RX6 (some .boolean) (d + 2)) {Q : Int → gS → Prop} (hE : gEnd X G (gPi (fun v s' => Q v s' ∧ gRg s'))) (s : gS) (hs : gRg s) (x1 : Int) (x2 : Int) (x3 : Int) (x4 : Int)  (h : (rng x4) ∧ (rng x2) ∧ ((x2 < x4 → Q 0 s) ∧ (x4 ≤ x2 → (rng x3) ∧ ((x3 ≤ x4 → Q 0 s) ∧ (x4 < x3 → (0 ≤ x4 ∧ x4 < 12) ∧ (0 ≤ x1 ∧ x1 < 12) ∧ ((¬ (gand (s.2 27 x4) (s.2 26 x1)) = 0 → gWL X G s 13 [(0, gR G 7), (1, vi x1), (2, vi x2), (3, vi x3), (4, vi (x4 + 1))] []) ∧ ((gand (s.2 27 x4) (s.2 26 x1)) = 0 → (rng (gbits (s.2 27 x4))) ∧ (((s.1 7 2) ≤ (gbits (s.2 27 x4)) → gWL X G s 13 [(0, gR G 7), (1, vi x1), (2, vi x2), (3, vi x3), (4, vi (x4 + 1))] []) ∧ ((gbits (s.2 27 x4)) < (s.1 7 2) → (rng (x4 + 1)) ∧ (gSt (gpA (gpA s 27 x4 (gor (s.2 27 x4) (gshl 1 x1))) 23 x1 x4) (x1 + 1) (max x2 (x4 + 1)) x3) ∧ (((gpA (gpA s 27 x4 (gor (s.2 27 x4) (gshl 1 x1))) 23 x1 x4).1 7 1) - (x1 + 1) < (d : Int)) ∧ (∀ (v18 : Int) (s16 : gS), ((gStood (gpA (gpA s 27 x4 (gor (s.2 27 x4) (gshl 1 x1))) 23 x1 x4) s16 (x1 + 1) x3 v18) ∧ gRg s16) → (rng v18) ∧ ((v18 = 0 → gWL X G (gpA s16 27 x4 (gxor (s16.2 27 x4) (gshl 1 x1))) 13 [(0, gR G 7), (1, vi x1), (2, vi x2), (3, vi x3), (4, vi (x4 + 1))] []) ∧ (¬ (v18 = 0) → Q 1 s16)))))))))))) : gWL X G s 13 [(0, gR G 7), (1, vi x1), (2, vi x2), (3, vi x3), (4, vi x4)] [] := by
  refine g_iload hX dX6_standsFrom_13 4 rfl ?_
  refine g_iload_n hX dX6_standsFrom_15 2 rfl ?_
  obtain ⟨h1, h⟩ := h
  obtain ⟨h2, h⟩ := h
  refine g_icgt (tgt := 120) hX h1 h2 dX6_standsFrom_16 (by decide) (fun c3 => ?_) (fun c3 => ?_)
  · replace h := h.1 c3
    refine g_iconst hX dX6_standsFrom_120 ?_
    exact g_zret hX hE (Or.inl rfl) dX6_standsFrom_121 ⟨h, hs⟩
  · replace h := h.2 (Int.not_lt.mp c3)
    refine g_iload hX dX6_standsFrom_19 4 rfl ?_
    refine g_iload_n hX dX6_standsFrom_21 3 rfl ?_
    obtain ⟨h4, h⟩ := h
    refine g_icge (tgt := 120) hX h1 h4 dX6_standsFrom_22 (by decide) (fun c5 => ?_) (fun c5 => ?_)
    · replace h := h.1 c5
      refine g_iconst hX dX6_standsFrom_120 ?_
      exact g_zret hX hE (Or.inl rfl) dX6_standsFrom_121 ⟨h, hs⟩
    · replace h := h.2 (Int.not_le.mp c5)
      refine g_aload_n hX dX6_standsFrom_25 0 rfl ?_
      refine g_getR hX sh_7 7 rfl fl_X6_34 dX6_standsFrom_26 ?_
      refine g_iload hX dX6_standsFrom_29 4 rfl ?_
      obtain ⟨h6, h⟩ := h
      refine g_iald hX sh_27 h6 (by decide) dX6_standsFrom_31 ?_
      refine g_aload_n hX dX6_standsFrom_32 0 rfl ?_
      refine g_getR hX sh_7 6 rfl fl_X6_31 dX6_standsFrom_33 ?_
      refine g_iload_n hX dX6_standsFrom_36 1 rfl ?_
      obtain ⟨h7, h⟩ := h
      refine g_iald hX sh_26 h7 (by decide) dX6_standsFrom_37 ?_
      refine g_iand hX dX6_standsFrom_38 ?_
      refine g_ifne (tgt := 114) hX (rng_i _) dX6_standsFrom_39 (by decide) (fun c8 => ?_) (fun c8 => ?_)
      · replace h := h.1 c8
        refine g_iinc (loc' := [(4, vi (x4 + 1)), (0, gR G 7), (1, vi x1), (2, vi x2), (3, vi x3)]) hX dX6_standsFrom_114 4 rfl (by decide) rfl ?_
        refine g_goto (tgt := 13) hX dX6_standsFrom_117 (by decide) ?_
        exact g_sub [1, 2, 3, 4, 0] rfl h
      · replace h := h.2 (gnn c8)
        refine g_aload_n hX dX6_standsFrom_42 0 rfl ?_
        refine g_getR hX sh_7 7 rfl fl_X6_34 dX6_standsFrom_43 ?_
        refine g_iload hX dX6_standsFrom_46 4 rfl ?_
        refine g_iald hX sh_27 h6 (by decide) dX6_standsFrom_48 ?_
        refine g_cSf (As := [vi (s.2 27 x4)]) hX (fun l => c_J6_bitCount_0f7a4 l hX.inj s (s.2 27 x4) hs) cv_X6_49 (by omega) rfl (Nat.le_of_ble_eq_true rfl) dX6_standsFrom_49 rfl (fun g9 => ?_)
        refine g_aload_n hX dX6_standsFrom_52 0 rfl ?_
        refine g_getI hX sh_7 2 rfl fl_X6_19 dX6_standsFrom_53 ?_
        obtain ⟨h10, h⟩ := h
        refine g_icge (tgt := 114) hX h10 (hs.1 _ _) dX6_standsFrom_56 (by decide) (fun c11 => ?_) (fun c11 => ?_)
        · replace h := h.1 c11
          refine g_iinc (loc' := [(4, vi (x4 + 1)), (0, gR G 7), (1, vi x1), (2, vi x2), (3, vi x3)]) hX dX6_standsFrom_114 4 rfl (by decide) rfl ?_
          refine g_goto (tgt := 13) hX dX6_standsFrom_117 (by decide) ?_
          exact g_sub [1, 2, 3, 4, 0] rfl h
        · replace h := h.2 (Int.not_le.mp c11)
          refine g_aload_n hX dX6_standsFrom_59 0 rfl ?_
          refine g_getR hX sh_7 7 rfl fl_X6_34 dX6_standsFrom_60 ?_
          refine g_iload hX dX6_standsFrom_63 4 rfl ?_
          refine g_dup2 hX rfl rfl dX6_standsFrom_65 ?_
          refine g_iald hX sh_27 h6 (by decide) dX6_standsFrom_66 ?_
          refine g_iconst hX dX6_standsFrom_67 ?_
          refine g_iload_n hX dX6_standsFrom_68 1 rfl ?_
          refine g_ishl hX dX6_standsFrom_69 ?_
          refine g_ior hX dX6_standsFrom_70 ?_
          refine g_iast hX sh_27 h6 (by decide) dX6_standsFrom_71 ?_
          refine g_aload_n hX dX6_standsFrom_72 0 rfl ?_
          refine g_getR hX sh_7 0 rfl fl_X6_9 dX6_standsFrom_73 ?_
          refine g_iload_n hX dX6_standsFrom_76 1 rfl ?_
          refine g_iload hX dX6_standsFrom_77 4 rfl ?_
          refine g_iast hX sh_23 h7 (by decide) dX6_standsFrom_79 ?_
          refine g_aload_n hX dX6_standsFrom_80 0 rfl ?_
          refine g_iload_n hX dX6_standsFrom_81 1 rfl ?_
          refine g_iconst hX dX6_standsFrom_82 ?_
          refine g_iadd hX dX6_standsFrom_83 ?_
          refine g_iload_n hX dX6_standsFrom_84 2 rfl ?_
          refine g_iload hX dX6_standsFrom_85 4 rfl ?_
          refine g_iconst hX dX6_standsFrom_87 ?_
          refine g_iadd hX dX6_standsFrom_88 ?_
          obtain ⟨h12, h⟩ := h
          refine g_cSf (As := [vi x2, vi (x4 + 1)]) hX (fun l => c_J9_max_7cf53 l hX.inj (gpA (gpA s 27 x4 (gor (s.2 27 x4) (gshl 1 x1))) 23 x1 x4) x2 (x4 + 1) (gRg_A (gRg_A hs (rng_i _)) h1) h2 h12) cv_X6_55 (by omega) rfl (Nat.le_of_ble_eq_true rfl) dX6_standsFrom_89 rfl (fun g13 => ?_)
          refine g_iload_n hX dX6_standsFrom_92 3 rfl ?_
          obtain ⟨h14, h⟩ := h
          obtain ⟨h15, h⟩ := h
          refine g_cVr (As := [vi (x1 + 1), vi (max x2 (x4 + 1)), vi x3]) hX (fun l => hrec l hX.inj (gpA (gpA s 27 x4 (gor (s.2 27 x4) (gshl 1 x1))) 23 x1 x4) (x1 + 1) (max x2 (x4 + 1)) x3 (gRg_A (gRg_A hs (rng_i _)) h1) h14 h15) sh_7 cv_X6_45 (by omega) rfl (Nat.le_of_ble_eq_true rfl) dX6_standsFrom_93 rfl (fun v18 s16 q17 => ?_)
          replace h := h v18 s16 q17
          have rs16 : gRg s16 := q17.2
          obtain ⟨h19, h⟩ := h
          refine g_ifeq (tgt := 101) hX h19 dX6_standsFrom_96 (by decide) (fun c20 => ?_) (fun c20 => ?_)
          · replace h := h.1 c20
            refine g_aload_n hX dX6_standsFrom_101 0 rfl ?_
            refine g_getR hX sh_7 7 rfl fl_X6_34 dX6_standsFrom_102 ?_
            refine g_iload hX dX6_standsFrom_105 4 rfl ?_
            refine g_dup2 hX rfl rfl dX6_standsFrom_107 ?_
            refine g_iald hX sh_27 h6 (by decide) dX6_standsFrom_108 ?_
            refine g_iconst hX dX6_standsFrom_109 ?_
            refine g_iload_n hX dX6_standsFrom_110 1 rfl ?_
            refine g_ishl hX dX6_standsFrom_111 ?_
            refine g_ixor hX dX6_standsFrom_112 ?_
            refine g_iast hX sh_27 h6 (by decide) dX6_standsFrom_113 ?_
            refine g_iinc (loc' := [(4, vi (x4 + 1)), (0, gR G 7), (1, vi x1), (2, vi x2), (3, vi x3)]) hX dX6_standsFrom_114 4 rfl (by decide) rfl ?_
            refine g_goto (tgt := 13) hX dX6_standsFrom_117 (by decide) ?_
            exact g_sub [1, 2, 3, 4, 0] rfl h
          · replace h := h.2 c20
            refine g_iconst hX dX6_standsFrom_99 ?_
            exact g_zret hX hE (Or.inr rfl) dX6_standsFrom_100 ⟨h, rs16⟩
theorem gin_cnt {b x1 h : Int} {g : Int → Int} (hb : rng b) (h0 : 0 ≤ x1) (h1 : x1 ≤ 12) (hq : ∀ q : Int, 0 ≤ q → q < 32 → (gbit b q = 1 ↔ (q < x1 ∧ g q = h))) : gbits b = gcnt g h x1 := by
  have z : ∀ q : Int, x1 ≤ q → q < 32 → gbit b q = 0 := fun q a c => by
    rcases gbit01 (b := b) (i := q) (by omega) c with k | k
    · exact k
    · have := (hq q (by omega) c).mp k; omega
  have h12 := gb12 hb (fun q a c => z q (by omega) c)
  rw [gbits_12 h12.1 h12.2, gsum_tail h0 h1 (fun q a c => z q a (by omega))]
  refine gsum_congr h0 (fun q a c => ?_)
  have k := hq q a (by omega)
  by_cases e : g q = h
  · show gbit b q = if g q = h then 1 else 0
    rw [if_pos e]; exact k.mpr ⟨c, e⟩
  · show gbit b q = if g q = h then 1 else 0
    rw [if_neg e]
    rcases gbit01 (b := b) (i := q) a (by omega) with w | w
    · exact w
    · exact absurd (k.mp w).2 e
theorem gcl_eq {s t : gS} (h : t.2 26 = s.2 26) : gcl t = gcl s := by
  unfold gcl; rw [h]
set_option maxHeartbeats 4000000 in
theorem rec_X6_standsFrom : ∀ (d : Nat) (l : Launch) {G : gG} (hG : gInj G) (s : gS) (x1 x2 x3 : Int) (p0 : gRg s) (p1 : gSt s x1 x2 x3) (p2 : (s.1 7 1) - x1 < (d : Int)), gMet l G yX6_standsFrom cX6_standsFrom 5 (some .boolean) (d + 1) [gR G 7, vi x1, vi x2, vi x3] s (gPi (fun v s' => (gStood s s' x1 x3 v) ∧ gRg s')) := by
  intro d
  induction d with
  | zero => intro l G hG s x1 x2 x3 p0 p1 p2; exfalso; have := p1.1; omega
  | succ d ih =>
    intro l G hG s x1 x2 x3 p0 p1 p2
    obtain ⟨q1, q2, q3, q4, q5, q6, q7, q8⟩ := p1
    have hop := gop_bd (g := s.2 23) (N := x1) (fun p a b => (q7 p a b).2.1) x1 q1.1 (Int.le_refl _)
    refine gMet_of (plainFor_of_name (by decide)) hG (Nat.le_of_ble_eq_true rfl) (fun X hX hE => ?_)
    refine bk_X6_standsFrom_0 d (fun l hG => ih l hG) hX hE s p0 x1 x2 x3 ⟨rng_of (by omega) (by omega), fun hlt => ?_, fun hge => ?_⟩
    · refine gloop (α := gS) (hi := max 0 (min (x2 + 1) x3)) (fun h t => 0 ≤ h ∧ goff2 s t 23 27 ∧ gRg t ∧ gext (s.2 23) (t.2 23) x1 ∧ (∀ h' : Int, t.2 27 h' = s.2 27 h') ∧ ∀ g' : Int → Int, gval (gcl s) (s.1 7 2) x3 g' (s.1 7 1) → gext (s.2 23) g' x1 → h ≤ g' x1) (fun h t => gWL X G t 13 [(0, gR G 7), (1, vi x1), (2, vi x2), (3, vi x3), (4, vi h)] []) ?_ ?_ 0 s (by omega) ⟨by omega, ⟨rfl, fun _ _ _ => rfl⟩, p0, gext.rf _ _, fun _ => rfl, fun g' hg _ => (hg x1 q1.1 hlt).1⟩
      · intro h t hh ⟨h0, toff, tr, t23, t27, tg⟩ next
        have e1 : t.1 = s.1 := toff.1
        have e26 : t.2 26 = s.2 26 := toff.2 26 (by decide) (by decide)
        have hm : h < x3 := by omega
        have bits : ∀ q : Int, 0 ≤ q → q < 32 → (gbit (t.2 27 h) q = 1 ↔ (q < x1 ∧ s.2 23 q = h)) := fun q a b => by rw [t27]; exact q8 h q h0 hm a b
        have cnt : gbits (t.2 27 h) = gcnt (s.2 23) h x1 := gin_cnt (tr.2 27 h) q1.1 (by omega) bits
        have grow : (∀ g' : Int → Int, gval (gcl s) (s.1 7 2) x3 g' (s.1 7 1) → gext (s.2 23) g' x1 → ¬ g' x1 = h) → ∀ g' : Int → Int, gval (gcl s) (s.1 7 2) x3 g' (s.1 7 1) → gext (s.2 23) g' x1 → h + 1 ≤ g' x1 := fun k g' a b => by
          have := tg g' a b; have := k g' a b; omega
        have w23 : gext (s.2 23) ((gpA (gpA t 27 h (gor (t.2 27 h) (gshl 1 x1))) 23 x1 h).2 23) x1 := fun p a b => by
          rw [gpA_ni (by omega), gpA_nk (by omega)]; exact t23 p a b
        have w23x : (gpA (gpA t 27 h (gor (t.2 27 h) (gshl 1 x1))) 23 x1 h).2 23 x1 = h := gpA_eq
        have wcl : gcl (gpA (gpA t 27 h (gor (t.2 27 h) (gshl 1 x1))) 23 x1 h) = gcl s := gcl_eq (by
          rw [← e26]; funext y; rw [gpA_nk (by omega), gpA_nk (by omega)])
        have wbits : ∀ h' q : Int, 0 ≤ h' → h' < x3 → 0 ≤ q → q < 32 → (gbit ((gpA (gpA t 27 h (gor (t.2 27 h) (gshl 1 x1))) 23 x1 h).2 27 h') q = 1 ↔ (q < x1 + 1 ∧ (gpA (gpA t 27 h (gor (t.2 27 h) (gshl 1 x1))) 23 x1 h).2 23 q = h')) := fun h' q a b c d => by
          rw [gpA_nk (by omega)]
          by_cases eh : h' = h
          · subst eh
            rw [gpA_eq, gbit_or_shl q1.1 (by omega) c d]
            by_cases eq : q = x1
            · rw [if_pos eq, eq, w23x]
              exact ⟨fun _ => ⟨by omega, rfl⟩, fun _ => rfl⟩
            · rw [if_neg eq, bits q c d]
              constructor
              · rintro ⟨z1, z2⟩; exact ⟨by omega, by rw [w23 q c z1]; exact z2⟩
              · rintro ⟨z1, z2⟩; have z3 : q < x1 := by omega
                exact ⟨z3, by rw [← w23 q c z3]; exact z2⟩
          · rw [gpA_ni eh, t27, q8 h' q a b c d]
            constructor
            · rintro ⟨z1, z2⟩; exact ⟨by omega, by rw [w23 q c z1]; exact z2⟩
            · rintro ⟨z1, z2⟩
              have z4 : ¬ q = x1 := fun e => by rw [e, w23x] at z2; omega
              have z3 : q < x1 := by omega
              exact ⟨z3, by rw [← w23 q c z3]; exact z2⟩
        have wval : gand (t.2 27 h) (t.2 26 x1) = 0 → gbits (t.2 27 h) < t.1 7 2 → gval (gcl (gpA (gpA t 27 h (gor (t.2 27 h) (gshl 1 x1))) 23 x1 h)) ((gpA (gpA t 27 h (gor (t.2 27 h) (gshl 1 x1))) 23 x1 h).1 7 2) x3 ((gpA (gpA t 27 h (gor (t.2 27 h) (gshl 1 x1))) 23 x1 h).2 23) (x1 + 1) := by
          intro hc hf p a b
          rw [wcl]
          show gfit (gcl s) (t.1 7 2) x3 _ p
          rw [e1]
          by_cases ep : p = x1
          · subst ep
            refine ⟨by rw [w23x]; exact h0, by rw [w23x, gop_congr a w23, ← q6]; omega, by rw [w23x]; exact hm, fun q z1 z2 z3 z4 => ?_, ?_⟩
            · rw [w23x, w23 q z1 z2] at z3
              refine gand_0.mp hc q z1 (by omega) ⟨(bits q z1 (by omega)).mpr ⟨z2, z3⟩, ?_⟩
              rw [e26]; exact z4
            · rw [w23x]
              unfold gcnt at cnt ⊢
              rw [gcw_congr a w23, ← cnt, ← e1]; exact hf
          · exact gfit_congr a (w23.le (by omega)) (q7 p a (by omega))
        refine bk_X6_standsFrom_13 d (fun l hG => ih l hG) hX hE t tr x1 x2 x3 h ⟨rng_of (by omega) (by omega), rng_of (by omega) (by omega), fun z => by omega, fun _ => ⟨q5, fun z => by omega, fun _ => ⟨by omega, by omega, fun hc => ?_, fun hc => ⟨?_, fun hf => ?_, fun hf => ⟨rng_of (by omega) (by omega), ?_, ?_, ?_⟩⟩⟩⟩⟩
        · refine next t ⟨by omega, toff, tr, t23, t27, grow (fun g' gv ge e => hc (gand_0.mpr (fun q a b ⟨z1, z2⟩ => ?_)))⟩
          have k := (bits q a b).mp z1
          refine (gv x1 q1.1 hlt).2.2.2.1 q a k.1 (by rw [ge q a k.1, k.2, e]) ?_
          show gbit (s.2 26 x1) q = 1
          rw [← e26]; exact z2
        · rw [cnt]; have := gsum_bd (f := fun q => if s.2 23 q = h then 1 else 0) (n := x1) (lo := 0) (hi := 1) q1.1 (fun i _ _ => by split <;> omega)
          exact (show rng (gsum (fun q => if s.2 23 q = h then 1 else 0) x1) from rng_of (by omega) (by omega))
        · refine next t ⟨by omega, toff, tr, t23, t27, grow (fun g' gv ge e => ?_)⟩
          have k := (gv x1 q1.1 hlt).2.2.2.2
          unfold gcnt at k cnt
          rw [gcw_congr q1.1 ge, e, ← cnt] at k
          rw [e1] at hf; omega
        · exact ⟨⟨by omega, by show x1 + 1 ≤ t.1 7 1; rw [e1]; omega⟩, by show t.1 7 1 ≤ 12; rw [e1]; omega, by show x3 ≤ t.1 7 1; rw [e1]; omega, by show 1 ≤ t.1 7 2 ∧ t.1 7 2 ≤ 4; rw [e1]; exact q4, q5, by rw [gop_s _ q1.1, w23x, gop_congr q1.1 w23, q6], wval hc hf, wbits⟩
        · show t.1 7 1 - (x1 + 1) < d
          rw [e1]; omega
        · intro v u ⟨⟨uoff, u23, uv, u1, u0⟩, ur⟩
          have v1 : u.1 = s.1 := uoff.1.trans e1
          have su : goff2 s u 23 27 := ⟨v1, fun k a b => by rw [uoff.2 k a b, ← toff.2 k a b]; funext y; rw [gpA_nk a, gpA_nk b]⟩
          have sx : gext (s.2 23) (u.2 23) x1 := w23.trans (u23.le (by omega))
          have ux : u.2 23 x1 = h := (u23 x1 q1.1 (by omega)).trans w23x
          rw [wcl] at u1 u0
          rw [show (gpA (gpA t 27 h (gor (t.2 27 h) (gshl 1 x1))) 23 x1 h).1 = s.1 from e1] at u1 u0
          refine ⟨by rcases uv with z | z <;> rw [z] <;> exact rng_of (by omega) (by omega), fun hv => ?_, fun hv => ?_⟩
          · obtain ⟨un, u27⟩ := u0 hv
            have r27 : ∀ h' : Int, (gpA u 27 h (gxor (u.2 27 h) (gshl 1 x1))).2 27 h' = s.2 27 h' := fun h' => by
              by_cases e : h' = h
              · subst e
                rw [gpA_eq, u27, gpA_nk (by omega), gpA_eq, ← t27]
                refine gbit_ext (rng_i _) (tr.2 27 h') (fun q a b => ?_)
                rw [gbit_xor_shl q1.1 (by omega) a b, gbit_or_shl q1.1 (by omega) a b]
                by_cases eq : q = x1
                · rw [if_pos eq, if_pos eq]
                  rcases gbit01 (b := t.2 27 h') a b with k | k
                  · omega
                  · have := (bits q a b).mp k; omega
                · rw [if_neg eq, if_neg eq]
              · rw [gpA_ni e, u27, gpA_nk (by omega), gpA_ni e]; exact t27 h'
            refine next _ ⟨by omega, ⟨v1, fun k a b => by rw [← su.2 k a b]; funext y; rw [gpA_nk b]⟩, gRg_A ur (rng_i _), ?_, r27, grow (fun g' gv ge e => un g' gv ?_)⟩
            · intro p a b
              rw [gpA_nk (by omega)]; exact sx p a b
            · exact (w23.symm.trans ge).s (by rw [w23x]; exact e)
          · have hv1 : v = 1 := by omega
            have ul := u1 hv1
            show gStood s u x1 x3 1
            refine ⟨su, sx, Or.inr rfl, fun _ => ⟨ul.1, fun g' gv ge => ?_⟩, fun z => by omega⟩
            have k := tg g' gv (sx.trans ge)
            by_cases e : g' x1 = h
            · rcases ul.2 g' gv (ge.s (by rw [ux]; exact e)) with z | ⟨p, a, b, c, d⟩
              · exact Or.inl z
              · exact Or.inr ⟨p, by omega, b, c, d⟩
            · exact Or.inr ⟨x1, by omega, hlt, ge, by omega⟩
      · intro t ⟨h0, toff, tr, t23, t27, tg⟩
        have hno : gnone (gcl s) (s.1 7 2) x3 (s.1 7 1) x1 (s.2 23) := fun g' gv ge => by
          have a := tg g' gv ge
          have b := gv x1 q1.1 hlt
          have c := b.2.1
          rw [gop_congr q1.1 ge, ← q6] at c
          have := b.2.2.1
          omega
        have fin : gStood s t x1 x3 0 := ⟨toff, t23, Or.inl rfl, fun z => by omega, fun _ => ⟨hno, t27⟩⟩
        refine bk_X6_standsFrom_13 d (fun l hG => ih l hG) hX hE t tr x1 x2 x3 _ ⟨rng_of (by omega) (by omega), rng_of (by omega) (by omega), fun z => fin, fun _ => ⟨q5, fun z => fin, fun z => by omega⟩⟩
    · have e : x1 = s.1 7 1 := by omega
      exact ⟨⟨rfl, fun _ _ _ => rfl⟩, gext.rf _ _, Or.inr rfl, fun _ => ⟨by rw [← e]; exact q7, fun g' _ h => Or.inl (by rw [← e]; exact h)⟩, fun z => by omega⟩
set_option maxRecDepth 100000 in
set_option maxHeartbeats 4000000 in
theorem bk_X6_findHours_0 {X : gX} {G : gG} (hX : gOk X G cX6_findHours 4 RX6 (some .int) 16) {Q : Int → gS → Prop} (hE : gEnd X G (gPi (fun v s' => Q v s' ∧ gRg s'))) (s : gS) (hs : gRg s) (x2 : Int)  (h : (rng x2) ∧ (0 ≤ (s.1 7 1) ∧ (s.1 7 1) ≤ 12) ∧ (0 ≤ (s.1 6 4) ∧ (s.1 6 4) ≤ 60) ∧ (∀ s4 : gS, ((gclash s s4 x2) ∧ gRg s4) → (0 ≤ ((gpI s4 7 3 (s4.1 7 1)).1 7 1) ∧ ((gpI s4 7 3 (s4.1 7 1)).1 7 1) ≤ 12) ∧ (gCb (gpI s4 7 3 (s4.1 7 1))) ∧ (∀ (v10 : Int) (s8 : gS), ((gneed (gpI s4 7 3 (s4.1 7 1)) v10 ∧ s8 = (gpI s4 7 3 (s4.1 7 1))) ∧ gRg s8) → gWL X G s8 19 [(0, gR G 7), (3, vi v10)] []))) : gWL X G s 0 [(0, gR G 7), (1, gR G 6), (2, vi x2)] [] := by
  refine g_aload_n hX dX6_findHours_0 0 rfl ?_
  refine g_aload_n hX dX6_findHours_1 1 rfl ?_
  refine g_iload_n hX dX6_findHours_2 2 rfl ?_
  obtain ⟨h1, h⟩ := h
  obtain ⟨h2, h⟩ := h
  obtain ⟨h3, h⟩ := h
  refine g_cVu (As := [gR G 6, vi x2]) hX (fun l => c_X6_findClashes l hX.inj s 6 x2 hs h1 h2 h3) sh_7 cv_X6_37 (by decide) rfl (Nat.le_of_ble_eq_true rfl) dX6_findHours_3 rfl (fun s4 q5 => ?_)
  replace h := h s4 q5
  have rs4 : gRg s4 := q5.2
  refine g_aload_n hX dX6_findHours_6 0 rfl ?_
  refine g_aload_n hX dX6_findHours_7 0 rfl ?_
  refine g_getI hX sh_7 1 rfl fl_X6_15 dX6_findHours_8 ?_
  refine g_putI hX sh_7 3 rfl fl_X6_22 (fun _ _ _ e => by cases e; rfl) dX6_findHours_11 ?_
  refine g_aload_n hX dX6_findHours_14 0 rfl ?_
  obtain ⟨h6, h⟩ := h
  obtain ⟨h7, h⟩ := h
  refine g_cVr (As := []) hX (fun l => c_X6_countNeeded l hX.inj (gpI s4 7 3 (s4.1 7 1))  (gRg_I rs4 (rs4.1 _ _)) h6 h7) sh_7 cv_X6_41 (by decide) rfl (Nat.le_of_ble_eq_true rfl) dX6_findHours_15 rfl (fun v10 s8 q9 => ?_)
  replace h := h v10 s8 q9
  have rs8 : gRg s8 := q9.2
  refine g_istore_n (loc' := [(3, vi v10), (0, gR G 7), (1, gR G 6), (2, vi x2)]) hX dX6_findHours_18 (by decide) rfl ?_
  exact g_sub [1, 0] rfl h
set_option maxRecDepth 100000 in
set_option maxHeartbeats 4000000 in
theorem bk_X6_findHours_19 {X : gX} {G : gG} (hX : gOk X G cX6_findHours 4 RX6 (some .int) 16) {Q : Int → gS → Prop} (hE : gEnd X G (gPi (fun v s' => Q v s' ∧ gRg s'))) (s : gS) (hs : gRg s) (x3 : Int)  (h : (rng x3) ∧ (((s.1 7 1) ≤ x3 → (gSt s 0 0 (s.1 7 1)) ∧ ((s.1 7 1) - 0 < 13) ∧ (∀ (v7 : Int) (s5 : gS), ((gStood s s5 0 (s.1 7 1) v7) ∧ gRg s5) → Q (s5.1 7 1) s5)) ∧ (x3 < (s.1 7 1) → (rng (x3 * (s.1 7 2))) ∧ (((x3 * (s.1 7 2)) < (s.1 7 1) → gWL X G s 19 [(0, gR G 7), (3, vi (x3 + 1))] []) ∧ ((s.1 7 1) ≤ (x3 * (s.1 7 2)) → (gSt s 0 0 x3) ∧ ((s.1 7 1) - 0 < 13) ∧ (∀ (v14 : Int) (s12 : gS), ((gStood s s12 0 x3 v14) ∧ gRg s12) → (rng v14) ∧ ((v14 = 0 → gWL X G s12 19 [(0, gR G 7), (3, vi (x3 + 1))] []) ∧ (¬ (v14 = 0) → Q x3 s12)))))))) : gWL X G s 19 [(0, gR G 7), (3, vi x3)] [] := by
  refine g_iload_n hX dX6_findHours_19 1 rfl ?_
  refine g_aload_n hX dX6_findHours_20 0 rfl ?_
  refine g_getI hX sh_7 1 rfl fl_X6_15 dX6_findHours_21 ?_
  obtain ⟨h1, h⟩ := h
  refine g_icge (tgt := 58) hX h1 (hs.1 _ _) dX6_findHours_24 (by decide) (fun c2 => ?_) (fun c2 => ?_)
  · replace h := h.1 c2
    refine g_aload_n hX dX6_findHours_58 0 rfl ?_
    refine g_iconst hX dX6_findHours_59 ?_
    refine g_iconst hX dX6_findHours_60 ?_
    refine g_aload_n hX dX6_findHours_61 0 rfl ?_
    refine g_getI hX sh_7 1 rfl fl_X6_15 dX6_findHours_62 ?_
    obtain ⟨h3, h⟩ := h
    obtain ⟨h4, h⟩ := h
    refine g_cVr (As := [vi 0, vi 0, vi (s.1 7 1)]) hX (fun l => rec_X6_standsFrom 13 l hX.inj s 0 0 (s.1 7 1) hs h3 h4) sh_7 cv_X6_45 (by decide) rfl (Nat.le_of_ble_eq_true rfl) dX6_findHours_65 rfl (fun v7 s5 q6 => ?_)
    replace h := h v7 s5 q6
    have rs5 : gRg s5 := q6.2
    refine g_pop hX rfl dX6_findHours_68 ?_
    refine g_aload_n hX dX6_findHours_69 0 rfl ?_
    refine g_getI hX sh_7 1 rfl fl_X6_15 dX6_findHours_70 ?_
    exact g_iret hX hE dX6_findHours_73 ⟨h, rs5⟩
  · replace h := h.2 (Int.not_le.mp c2)
    refine g_iload_n hX dX6_findHours_27 1 rfl ?_
    refine g_aload_n hX dX6_findHours_28 0 rfl ?_
    refine g_getI hX sh_7 2 rfl fl_X6_19 dX6_findHours_29 ?_
    refine g_imul hX dX6_findHours_32 ?_
    refine g_aload_n hX dX6_findHours_33 0 rfl ?_
    refine g_getI hX sh_7 1 rfl fl_X6_15 dX6_findHours_34 ?_
    obtain ⟨h8, h⟩ := h
    refine g_iclt (tgt := 52) hX h8 (hs.1 _ _) dX6_findHours_37 (by decide) (fun c9 => ?_) (fun c9 => ?_)
    · replace h := h.1 c9
      refine g_iinc (loc' := [(3, vi (x3 + 1)), (0, gR G 7)]) hX dX6_findHours_52 1 rfl (by decide) rfl ?_
      refine g_goto (tgt := 19) hX dX6_findHours_55 (by decide) ?_
      exact g_sub [1, 0] rfl h
    · replace h := h.2 (Int.not_lt.mp c9)
      refine g_aload_n hX dX6_findHours_40 0 rfl ?_
      refine g_iconst hX dX6_findHours_41 ?_
      refine g_iconst hX dX6_findHours_42 ?_
      refine g_iload_n hX dX6_findHours_43 1 rfl ?_
      obtain ⟨h10, h⟩ := h
      obtain ⟨h11, h⟩ := h
      refine g_cVr (As := [vi 0, vi 0, vi x3]) hX (fun l => rec_X6_standsFrom 13 l hX.inj s 0 0 x3 hs h10 h11) sh_7 cv_X6_45 (by decide) rfl (Nat.le_of_ble_eq_true rfl) dX6_findHours_44 rfl (fun v14 s12 q13 => ?_)
      replace h := h v14 s12 q13
      have rs12 : gRg s12 := q13.2
      obtain ⟨h15, h⟩ := h
      refine g_ifeq (tgt := 52) hX h15 dX6_findHours_47 (by decide) (fun c16 => ?_) (fun c16 => ?_)
      · replace h := h.1 c16
        refine g_iinc (loc' := [(3, vi (x3 + 1)), (0, gR G 7)]) hX dX6_findHours_52 1 rfl (by decide) rfl ?_
        refine g_goto (tgt := 19) hX dX6_findHours_55 (by decide) ?_
        exact g_sub [1, 0] rfl h
      · replace h := h.2 c16
        refine g_iload_n hX dX6_findHours_50 1 rfl ?_
        exact g_iret hX hE dX6_findHours_51 ⟨h, rs12⟩
set_option maxRecDepth 100000 in
set_option maxHeartbeats 4000000 in
theorem c_X6_findHours (l : Launch) {G : gG} (hG : gInj G) (s : gS) (_ : Int) (x2 : Int) (p0 : gRg s) (p1 : rng x2) (p2 : cTt s) (p3 : 0 ≤ (s.1 6 4) ∧ (s.1 6 4) ≤ 60) : gMet l G yX6_findHours cX6_findHours 4 (some .int) 16 [gR G 7, gR G 6, vi x2] s (gPi (fun v s' => (ghours s s' x2 v) ∧ gRg s')) := by
  refine gMet_of (plainFor_of_name (by decide)) hG (Nat.le_of_ble_eq_true rfl) (fun X hX hE => ?_)
  refine bk_X6_findHours_0 hX hE s p0 x2  ?_
  refine ⟨p1, p2.1, p3, fun s4 ⟨⟨koff, k27, k26⟩, kr⟩ => ?_⟩
  have e1 : s4.1 = s.1 := koff.1
  have eN : (gpI s4 7 3 (s4.1 7 1)).1 7 1 = s.1 7 1 := by rw [gpI_nj (by decide), e1]
  have eH : (gpI s4 7 3 (s4.1 7 1)).1 7 2 = s.1 7 2 := by rw [gpI_nj (by decide), e1]
  have ecl : ∀ p q : Int, gcl (gpI s4 7 3 (s4.1 7 1)) p q ↔ gbit (s4.2 26 p) q = 1 := fun p q => Iff.rfl
  have kcl : ∀ p q : Int, 0 ≤ p → p < s.1 7 1 → 0 ≤ q → q < s.1 7 1 → (gcl (gpI s4 7 3 (s4.1 7 1)) p q ↔ (¬ p = q ∧ gM s x2 p q)) := fun p q a b c d => by
    rw [ecl, k26 p q a b c (by have := p2.1; omega)]
    exact ⟨fun z => z.2, fun z => ⟨d, z⟩⟩
  have cb : gCb (gpI s4 7 3 (s4.1 7 1)) := by
    refine ⟨fun p q a b c d z => ?_, fun p a b z => ?_⟩
    · rw [eN] at b d
      rw [kcl p q a b c d] at z
      rw [kcl q p c d a b]
      exact ⟨fun e => z.1 e.symm, gM_comm z.2⟩
    · rw [eN] at b
      rw [kcl p p a b a b] at z
      exact z.1 rfl
  have wr : gRg (gpI s4 7 3 (s4.1 7 1)) := gRg_I kr (kr.1 7 1)
  have hN := p2.1
  have hH := p2.2
  refine ⟨by rw [eN]; exact hN, cb, fun v s8 ⟨⟨hn, e8⟩, r8⟩ => ?_⟩
  subst e8
  have n1 := hn.1
  have n2 := hn.2.1
  rw [eN] at n2
  have fin : ∀ (m : Int) (t : gS), 0 ≤ m → goff2 (gpI s4 7 3 (s4.1 7 1)) t 23 27 → (∀ m' : Int, 0 ≤ m' → m' < m → ∀ g : Int → Int, gnone (gcl (gpI s4 7 3 (s4.1 7 1))) (s.1 7 2) m' (s.1 7 1) 0 g) → glex (gcl (gpI s4 7 3 (s4.1 7 1))) (s.1 7 2) m (s.1 7 1) 0 (t.2 23) → ghours s t x2 m := by
    intro m t m0 toff hno hl
    refine ⟨fun k j hk => ?_, ?_, fun k a b c d => ?_, ?_⟩
    · rw [toff.1]
      by_cases ek : k = 7
      · rw [gpI_nj (fun z => hk ⟨ek, z⟩), e1]
      · rw [gpI_nk ek, e1]
    · rw [toff.1, gpI_eq, e1]
    · rw [toff.2 k a d]
      exact koff.2 k b c d
    · exact gbest_cl (fun p q a b c => by rw [kcl p q (by omega) c a (by omega)]; exact ⟨fun z => z.2, fun z => ⟨by omega, z⟩⟩) ⟨m0, hl, fun m' a b => hno m' a b _⟩
  have st : ∀ (m : Int) (t : gS), 0 ≤ m → m ≤ s.1 7 1 → goff2 (gpI s4 7 3 (s4.1 7 1)) t 23 27 → (∀ h : Int, t.2 27 h = (gpI s4 7 3 (s4.1 7 1)).2 27 h) → gSt t 0 0 m := by
    intro m t m0 m1 toff t27
    refine ⟨?_, ?_, ?_, ?_, rng_of (by omega) (by omega), rfl, fun p a b => by omega, fun h q a b c d => ?_⟩
    · rw [toff.1, eN]; omega
    · rw [toff.1, eN]; omega
    · rw [toff.1, eN]; omega
    · rw [toff.1, eH]; omega
    · rw [t27, show (gpI s4 7 3 (s4.1 7 1)).2 27 h = 0 from k27 h a (by omega), gbit_0 c d]
      exact ⟨fun z => by omega, fun z => by omega⟩
  refine gloop (α := gS) (hi := s.1 7 1) (fun m t => 0 ≤ m ∧ goff2 (gpI s4 7 3 (s4.1 7 1)) t 23 27 ∧ gRg t ∧ (∀ h : Int, t.2 27 h = (gpI s4 7 3 (s4.1 7 1)).2 27 h) ∧ ∀ m' : Int, 0 ≤ m' → m' < m → ∀ g : Int → Int, gnone (gcl (gpI s4 7 3 (s4.1 7 1))) (s.1 7 2) m' (s.1 7 1) 0 g) (fun m t => gWL X G t 19 [(0, gR G 7), (3, vi m)] []) ?_ ?_ v _ n2 ⟨n1, ⟨rfl, fun _ _ _ => rfl⟩, wr, fun _ => rfl, fun m' a b g g' gv _ => ?_⟩
  · intro m t hm ⟨m0, toff, tr, t27, tno⟩ next
    have f1 : t.1 7 1 = s.1 7 1 := by rw [toff.1, eN]
    have f2 : t.1 7 2 = s.1 7 2 := by rw [toff.1, eH]
    have fcl : gcl t = gcl (gpI s4 7 3 (s4.1 7 1)) := gcl_eq (toff.2 26 (by decide) (by decide))
    have more : (∀ g : Int → Int, gnone (gcl (gpI s4 7 3 (s4.1 7 1))) (s.1 7 2) m (s.1 7 1) 0 g) → ∀ m' : Int, 0 ≤ m' → m' < m + 1 → ∀ g : Int → Int, gnone (gcl (gpI s4 7 3 (s4.1 7 1))) (s.1 7 2) m' (s.1 7 1) 0 g := fun z m' a b g => by
      by_cases e : m' = m
      · rw [e]; exact z g
      · exact tno m' a (by omega) g
    have hmul : 0 ≤ m * s.1 7 2 ∧ m * s.1 7 2 ≤ 12 * 4 := ⟨Int.mul_nonneg m0 (by omega), Int.mul_le_mul (by omega) (by omega) (by omega) (by omega)⟩
    refine bk_X6_findHours_19 hX hE t tr m ⟨rng_of (by omega) (by omega), fun h => by omega, fun _ => ⟨by rw [f2]; exact rng_of (by omega) (by omega), fun h => ?_, fun h => ⟨st m t m0 (by omega) toff t27, by omega, fun v' u ⟨⟨uoff, u23, uv, u1, u0⟩, ur⟩ => ?_⟩⟩⟩
    · rw [f1, f2] at h
      exact next t ⟨by omega, toff, tr, t27, more (fun g g' gv _ => by have := gval_room hN.1 m0 (by omega) gv; omega)⟩
    · have wu : goff2 (gpI s4 7 3 (s4.1 7 1)) u 23 27 := ⟨uoff.1.trans toff.1, fun k a b => (uoff.2 k a b).trans (toff.2 k a b)⟩
      rw [fcl, f1, f2] at u1 u0
      refine ⟨by rcases uv with z | z <;> rw [z] <;> exact rng_of (by omega) (by omega), fun hv => ?_, fun hv => ?_⟩
      · obtain ⟨un, u27⟩ := u0 hv
        exact next u ⟨by omega, wu, ur, fun h => (u27 h).trans (t27 h), more (fun g g' gv _ => un g' gv (fun p a b => by omega))⟩
      · exact fin m u m0 wu tno (u1 (by omega))
  · intro t ⟨m0, toff, tr, t27, tno⟩
    have f1 : t.1 7 1 = s.1 7 1 := by rw [toff.1, eN]
    have f2 : t.1 7 2 = s.1 7 2 := by rw [toff.1, eH]
    have fcl : gcl t = gcl (gpI s4 7 3 (s4.1 7 1)) := gcl_eq (toff.2 26 (by decide) (by decide))
    refine bk_X6_findHours_19 hX hE t tr _ ⟨rng_of (by omega) (by omega), fun _ => ⟨by rw [f1]; exact st _ t m0 (Int.le_refl _) toff t27, by omega, fun v' u ⟨⟨uoff, u23, uv, u1, u0⟩, ur⟩ => ?_⟩, fun h => by omega⟩
    have wu : goff2 (gpI s4 7 3 (s4.1 7 1)) u 23 27 := ⟨uoff.1.trans toff.1, fun k a b => (uoff.2 k a b).trans (toff.2 k a b)⟩
    rw [fcl, f1, f2] at u1 u0
    rcases uv with z | z
    · exact absurd (u0 z).1 (gfeas (by omega) _)
    · rw [show u.1 7 1 = s.1 7 1 by rw [uoff.1, f1]]
      exact fin _ u m0 wu tno (u1 z)
  · have z := hn.2.2 m' g' a (fun p p0 p1 => by rw [eN] at p1; exact ⟨(gv p p0 p1).1, (gv p p0 p1).2.2.1⟩) (fun p q a' b' c' d' z => by
      rw [eN] at b' d'
      exact gval_apart (fun p q a b c d => cb.1 p q a (by rw [eN]; exact b) c (by rw [eN]; exact d)) (fun p a b => cb.2 p a (by rw [eN]; exact b)) gv p q a' b' c' d' z)
    omega

