theorem fl_X7_40 : gFL RX7 40 7 4 := ⟨RX7, TX7, 8, tyX7, rfl, by decide, inG_X7, (gm_1 226 rfl rfl), tyX7_ok, nmX7, fun h => absurd h (by decide)⟩
theorem fl_X7_47 : gFL RX7 47 7 5 := ⟨RX7, TX7, 8, tyX7, rfl, by decide, inG_X7, (gm_1 227 rfl rfl), tyX7_ok, nmX7, fun h => absurd h (by decide)⟩
theorem fl_X7_54 : gFL RX7 54 7 6 := ⟨RX7, TX7, 8, tyX7, rfl, by decide, inG_X7, (gm_1 228 rfl rfl), tyX7_ok, nmX7, fun h => absurd h (by decide)⟩
theorem fl_X7_116 : gFL RX7 116 2 0 := ⟨RX2, TX2, 3, tyX2, rfl, by decide, inG_X2, (gm_1 154 rfl rfl), tyX2_ok, nmX2, fun _ => rfl⟩
theorem fl_X7_144 : gFL RX7 144 5 4 := ⟨RX5, TX5, 5, tyX5, rfl, by decide, inG_X5, (gm_1 175 rfl rfl), tyX5_ok, nmX5, fun _ => rfl⟩
theorem fl_X7_152 : gFL RX7 152 6 1 := ⟨RX6, TX6, 8, tyX6, rfl, by decide, inG_X6, (gm_1 196 rfl rfl), tyX6_ok, nmX6, fun _ => rfl⟩
theorem fl_X7_156 : gFL RX7 156 6 2 := ⟨RX6, TX6, 8, tyX6, rfl, by decide, inG_X6, (gm_1 198 rfl rfl), tyX6_ok, nmX6, fun _ => rfl⟩
theorem fl_X7_163 : gFL RX7 163 6 3 := ⟨RX6, TX6, 8, tyX6, rfl, by decide, inG_X6, (gm_1 200 rfl rfl), tyX6_ok, nmX6, fun _ => rfl⟩
theorem fl_X7_166 : gFL RX7 166 6 0 := ⟨RX6, TX6, 8, tyX6, rfl, by decide, inG_X6, (gm_1 194 rfl rfl), tyX6_ok, nmX6, fun h => absurd h (by decide)⟩
theorem cv_X7_119 : gCS RX7 119 yJ6_bitCount_0f7a4 cJ6_bitCount_0f7a4 1 (some .int) 1 := ⟨(gm_2 129 rfl rfl), (gm_2 130 rfl rfl), (gm_1 11 rfl rfl), (gm_2 131 rfl rfl), ⟨by decide, by decide, by decide +kernel⟩, by decide⟩
theorem cv_X7_124 : gCV RX7 124 yX2_takeRow cX2_takeRow 8 (some .boolean) 3 2 := ⟨TX2, 3, rfl, (gm_2 139 rfl rfl), (gm_2 140 rfl rfl), (gm_2 141 rfl rfl), (gm_1 6 rfl rfl), (gm_2 142 rfl rfl), ⟨by decide, by decide, by decide +kernel⟩, by decide⟩
theorem cv_X7_128 : gCV RX7 128 yX2_countJudges cX2_countJudges 3 (some .int) 0 2 := ⟨TX2, 3, rfl, (gm_2 150 rfl rfl), (gm_2 151 rfl rfl), (gm_2 152 rfl rfl), (gm_1 6 rfl rfl), (gm_2 153 rfl rfl), ⟨by decide, by decide, by decide +kernel⟩, by decide⟩
theorem cv_X7_132 : gCV RX7 132 yX2_isSinging cX2_isSinging 2 (some .boolean) 1 2 := ⟨TX2, 3, rfl, (gm_2 162 rfl rfl), (gm_2 163 rfl rfl), (gm_2 164 rfl rfl), (gm_1 6 rfl rfl), (gm_2 165 rfl rfl), ⟨by decide, by decide, by decide +kernel⟩, by decide⟩
theorem cv_X7_135 : gCV RX7 135 yX2_findPlace cX2_findPlace 5 (some .int) 1 2 := ⟨TX2, 3, rfl, (gm_2 167 rfl rfl), (gm_2 168 rfl rfl), (gm_2 169 rfl rfl), (gm_1 6 rfl rfl), (gm_2 170 rfl rfl), ⟨by decide, by decide, by decide +kernel⟩, by decide⟩
theorem cv_X7_138 : gCV RX7 138 yX2_countRanks cX2_countRanks 5 (some .int) 2 2 := ⟨TX2, 3, rfl, (gm_2 193 rfl rfl), (gm_2 177 rfl rfl), (gm_2 178 rfl rfl), (gm_1 6 rfl rfl), (gm_2 179 rfl rfl), ⟨by decide, by decide, by decide +kernel⟩, by decide⟩
theorem cv_X7_141 : gCS RX7 141 yX7_isDay cX7_isDay 1 (some .boolean) 1 := ⟨(gm_2 198 rfl rfl), (gm_2 199 rfl rfl), (gm_1 1 rfl rfl), (gm_2 200 rfl rfl), ⟨by decide, by decide, by decide +kernel⟩, by decide⟩
theorem cv_X7_145 : gCV RX7 145 yX5_addSpan cX5_addSpan 5 (some .int) 4 5 := ⟨TX5, 5, rfl, (gm_2 201 rfl rfl), (gm_2 202 rfl rfl), (gm_2 203 rfl rfl), (gm_1 7 rfl rfl), (gm_2 204 rfl rfl), ⟨by decide, by decide, by decide +kernel⟩, by decide⟩
theorem cv_X7_149 : gCV RX7 149 yX5_findSingers cX5_findSingers 5 (some .int) 2 5 := ⟨TX5, 5, rfl, (gm_2 209 rfl rfl), (gm_2 210 rfl rfl), (gm_2 211 rfl rfl), (gm_1 7 rfl rfl), (gm_2 212 rfl rfl), ⟨by decide, by decide, by decide +kernel⟩, by decide⟩
theorem cv_X7_153 : gCV RX7 153 yX6_addPerformance cX6_addPerformance 2 (some .int) 1 6 := ⟨TX6, 8, rfl, (gm_2 222 rfl rfl), (gm_2 223 rfl rfl), (gm_2 224 rfl rfl), (gm_1 8 rfl rfl), (gm_2 225 rfl rfl), ⟨by decide, by decide, by decide +kernel⟩, by decide⟩
theorem cv_X7_159 : gCV RX7 159 yX6_findHours cX6_findHours 4 (some .int) 2 6 := ⟨TX6, 8, rfl, (gm_2 238 rfl rfl), (gm_2 239 rfl rfl), (gm_3 0 rfl rfl), (gm_1 8 rfl rfl), (gm_3 1 rfl rfl), ⟨by decide, by decide, by decide +kernel⟩, by decide⟩
/-! ===== calls of the class: judges, members, hours ===== -/
set_option maxRecDepth 100000 in
set_option maxHeartbeats 4000000 in
theorem bk_X7_sing_0 {X : gX} {G : gG} (hX : gOk X G cX7_sing 2 RX7 (some .int) 2) {Q : Int → gS → Prop} (hE : gEnd X G (gPi (fun v s' => Q v s' ∧ gRg s'))) (s : gS) (hs : gRg s) (x1 : Int)  (h : (rng x1) ∧ ((1 ≤ x1 ∧ x1 ≤ 1023 → Q (gbits x1) (gpI s 5 0 x1)) ∧ (¬ (1 ≤ x1 ∧ x1 ≤ 1023) → Q (-1) s))) : gWL X G s 0 [(0, gR G 0), (1, vi x1)] [] := by
  refine g_iload_n hX dX7_sing_0 1 rfl ?_
  refine g_iconst hX dX7_sing_1 ?_
  refine g_sipush hX dX7_sing_2 rfl ?_
  obtain ⟨h1, h⟩ := h
  refine g_cSf (As := [vi x1, vi 1, vi 1023]) hX (fun l => c_X7_isWithin l hX.inj s x1 1 1023 hs h1 (by unfold rng; omega) (by unfold rng; omega)) cv_X7_62 (by decide) rfl (Nat.le_of_ble_eq_true rfl) dX7_sing_5 rfl (fun g2 => ?_)
  refine g_ifne (tgt := 13) hX (gb_rng _) dX7_sing_8 (by decide) (fun c3 => ?_) (fun c3 => ?_)
  · replace h := h.1 (gb_n0.mp c3)
    refine g_aload_n hX dX7_sing_13 0 rfl ?_
    refine g_getR hX sh_0 4 rfl fl_X7_40 dX7_sing_14 ?_
    refine g_iload_n hX dX7_sing_17 1 rfl ?_
    refine g_putI hX sh_5 0 rfl fl_X7_116 (fun _ _ _ e => by cases e; rfl) dX7_sing_18 ?_
    refine g_iload_n hX dX7_sing_21 1 rfl ?_
    refine g_cSf (As := [vi x1]) hX (fun l => c_J6_bitCount_0f7a4 l hX.inj (gpI s 5 0 x1) x1 (gRg_I hs h1)) cv_X7_119 (by decide) rfl (Nat.le_of_ble_eq_true rfl) dX7_sing_22 rfl (fun g4 => ?_)
    exact g_iret hX hE dX7_sing_25 ⟨h, (gRg_I hs h1)⟩
  · replace h := h.2 (gb_eq0.mp (gnn c3))
    refine g_iconst hX dX7_sing_11 ?_
    exact g_iret hX hE dX7_sing_12 ⟨h, hs⟩
set_option maxRecDepth 100000 in
set_option maxHeartbeats 4000000 in
theorem c_X7_sing (l : Launch) {G : gG} (hG : gInj G) (s : gS) (x1 : Int) (p0 : gRg s) (p1 : rng x1) : gMet l G yX7_sing cX7_sing 2 (some .int) 2 [gR G 0, vi x1] s (gPi (fun v s' => (if 1 ≤ x1 ∧ x1 ≤ 1023 then v = gbits x1 ∧ s' = gpI s 5 0 x1 else v = -1 ∧ s' = s) ∧ gRg s')) := by
  refine gMet_of (plainFor_of_name (by decide)) hG (Nat.le_of_ble_eq_true rfl) (fun X hX hE => ?_)
  refine bk_X7_sing_0 hX hE s p0 x1  ?_
  refine ⟨p1, fun h => ?_, fun h => ?_⟩
  · rw [if_pos h]; exact ⟨rfl, rfl⟩
  · rw [if_neg h]; exact ⟨rfl, rfl⟩
set_option maxRecDepth 100000 in
set_option maxHeartbeats 4000000 in
theorem bk_X7_judge_0 {X : gX} {G : gG} (hX : gOk X G cX7_judge 5 RX7 (some .boolean) 3) {Q : Int → gS → Prop} (hE : gEnd X G (gPi (fun v s' => Q v s' ∧ gRg s'))) (s : gS) (hs : gRg s) (x1 : Int) (x2 : Int) (y3 : Int64)  (h : (rng x1) ∧ ((¬ (0 ≤ x1 ∧ x1 ≤ 8) → Q 0 s) ∧ (0 ≤ x1 ∧ x1 ≤ 8 → (rng x2) ∧ ((0 ≤ x2 ∧ x2 ≤ 10 → (0 ≤ x1 ∧ x1 < 9) ∧ (0 ≤ x2 ∧ x2 ≤ 10) ∧ (∀ (v11 : Int) (s9 : gS), (((gvalid (gclub y3) x2 → v11 = 1 ∧ s9 = granks (gpA s 17 x1 (gbitsOf (gclub y3) x2)) (300 + x1) (gclub y3) x2) ∧ (¬ gvalid (gclub y3) x2 → v11 = 0 ∧ s9 = s)) ∧ gRg s9) → (v11 = 0 ∨ v11 = 1) ∧ Q v11 s9)) ∧ (¬ (0 ≤ x2 ∧ x2 ≤ 10) → Q 0 s))))) : gWL X G s 0 [(0, gR G 0), (1, vi x1), (2, vi x2), (3, .long y3)] [] := by
  refine g_iload_n hX dX7_judge_0 1 rfl ?_
  refine g_iconst hX dX7_judge_1 ?_
  refine g_bipush hX dX7_judge_2 rfl ?_
  obtain ⟨h1, h⟩ := h
  refine g_cSf (As := [vi x1, vi 0, vi 8]) hX (fun l => c_X7_isWithin l hX.inj s x1 0 8 hs h1 (by unfold rng; omega) (by unfold rng; omega)) cv_X7_62 (by decide) rfl (Nat.le_of_ble_eq_true rfl) dX7_judge_4 rfl (fun g2 => ?_)
  refine g_ifeq (tgt := 20) hX (gb_rng _) dX7_judge_7 (by decide) (fun c3 => ?_) (fun c3 => ?_)
  · replace h := h.1 (gb_eq0.mp c3)
    refine g_iconst hX dX7_judge_20 ?_
    exact g_zret hX hE (Or.inl rfl) dX7_judge_21 ⟨h, hs⟩
  · replace h := h.2 (gb_n0.mp c3)
    refine g_iload_n hX dX7_judge_10 2 rfl ?_
    refine g_iconst hX dX7_judge_11 ?_
    refine g_bipush hX dX7_judge_12 rfl ?_
    obtain ⟨h4, h⟩ := h
    refine g_cSf (As := [vi x2, vi 0, vi 10]) hX (fun l => c_X7_isWithin l hX.inj s x2 0 10 hs h4 (by unfold rng; omega) (by unfold rng; omega)) cv_X7_62 (by decide) rfl (Nat.le_of_ble_eq_true rfl) dX7_judge_14 rfl (fun g5 => ?_)
    refine g_ifne (tgt := 22) hX (gb_rng _) dX7_judge_17 (by decide) (fun c6 => ?_) (fun c6 => ?_)
    · replace h := h.1 (gb_n0.mp c6)
      refine g_aload_n hX dX7_judge_22 0 rfl ?_
      refine g_getR hX sh_0 4 rfl fl_X7_40 dX7_judge_23 ?_
      refine g_iload_n hX dX7_judge_26 1 rfl ?_
      refine g_iload_n hX dX7_judge_27 2 rfl ?_
      refine g_lload_n hX dX7_judge_28 3 rfl ?_
      obtain ⟨h7, h⟩ := h
      obtain ⟨h8, h⟩ := h
      refine g_cVr (As := [vi x1, vi x2, .long y3]) hX (fun l => c_X2_takeRow l hX.inj s x1 x2 y3 hs h4 h7 h8) sh_5 cv_X7_124 (by decide) rfl (Nat.le_of_ble_eq_true rfl) dX7_judge_29 rfl (fun v11 s9 q10 => ?_)
      replace h := h v11 s9 q10
      have rs9 : gRg s9 := q10.2
      obtain ⟨h12, h⟩ := h
      exact g_zret hX hE h12 dX7_judge_32 ⟨h, rs9⟩
    · replace h := h.2 (gb_eq0.mp (gnn c6))
      refine g_iconst hX dX7_judge_20 ?_
      exact g_zret hX hE (Or.inl rfl) dX7_judge_21 ⟨h, hs⟩
set_option maxRecDepth 100000 in
set_option maxHeartbeats 4000000 in
theorem c_X7_judge (l : Launch) {G : gG} (hG : gInj G) (s : gS) (x1 : Int) (x2 : Int) (y3 : Int64) (p0 : gRg s) (p1 : rng x1) (p2 : rng x2) : gMet l G yX7_judge cX7_judge 5 (some .boolean) 3 [gR G 0, vi x1, vi x2, .long y3] s (gPi (fun v s' => ((((0 ≤ x1 ∧ x1 ≤ 8) ∧ (0 ≤ x2 ∧ x2 ≤ 10) ∧ gvalid (gclub y3) x2) → v = 1 ∧ s' = granks (gpA s 17 x1 (gbitsOf (gclub y3) x2)) (300 + x1) (gclub y3) x2) ∧ (¬ ((0 ≤ x1 ∧ x1 ≤ 8) ∧ (0 ≤ x2 ∧ x2 ≤ 10) ∧ gvalid (gclub y3) x2) → v = 0 ∧ s' = s)) ∧ gRg s')) := by
  refine gMet_of (plainFor_of_name (by decide)) hG (Nat.le_of_ble_eq_true rfl) (fun X hX hE => ?_)
  refine bk_X7_judge_0 hX hE s p0 x1 x2 y3  ?_
  refine ⟨p1, fun h => ⟨fun z => absurd z.1 h, fun _ => ⟨rfl, rfl⟩⟩, fun h => ⟨p2, fun h2 => ⟨by omega, h2, fun v t ⟨⟨z1, z2⟩, _⟩ => ?_⟩, fun h2 => ⟨fun z => absurd z.2.1 h2, fun _ => ⟨rfl, rfl⟩⟩⟩⟩
  by_cases hv : gvalid (gclub y3) x2
  · obtain ⟨a, b⟩ := z1 hv
    exact ⟨Or.inr a, fun _ => ⟨a, b⟩, fun z => absurd ⟨h, h2, hv⟩ z⟩
  · obtain ⟨a, b⟩ := z2 hv
    exact ⟨Or.inl a, fun z => absurd z.2.2 hv, fun _ => ⟨a, b⟩⟩
set_option maxRecDepth 100000 in
set_option maxHeartbeats 4000000 in
theorem bk_X7_judges_0 {X : gX} {G : gG} (hX : gOk X G cX7_judges 1 RX7 (some .int) 3) {Q : Int → gS → Prop} (hE : gEnd X G (gPi (fun v s' => Q v s' ∧ gRg s'))) (s : gS) (hs : gRg s)   (h : Q (gjudges s) s) : gWL X G s 0 [(0, gR G 0)] [] := by
  refine g_aload_n hX dX7_judges_0 0 rfl ?_
  refine g_getR hX sh_0 4 rfl fl_X7_40 dX7_judges_1 ?_
  refine g_cVf (As := []) hX (fun l => c_X2_countJudges l hX.inj s  hs) sh_5 cv_X7_128 (by decide) rfl (Nat.le_of_ble_eq_true rfl) dX7_judges_4 rfl (fun g1 => ?_)
  exact g_iret hX hE dX7_judges_7 ⟨h, hs⟩
set_option maxRecDepth 100000 in
set_option maxHeartbeats 4000000 in
theorem c_X7_judges (l : Launch) {G : gG} (hG : gInj G) (s : gS)  (p0 : gRg s) : gMet l G yX7_judges cX7_judges 1 (some .int) 3 [gR G 0] s (gPi (fun v s' => (v = (gjudges s) ∧ s' = s) ∧ gRg s')) := by
  refine gMet_of (plainFor_of_name (by decide)) hG (Nat.le_of_ble_eq_true rfl) (fun X hX hE => ?_)
  refine bk_X7_judges_0 hX hE s p0   ?_
  exact ⟨rfl, rfl⟩
set_option maxRecDepth 100000 in
set_option maxHeartbeats 4000000 in
theorem bk_X7_place_0 {X : gX} {G : gG} (hX : gOk X G cX7_place 2 RX7 (some .int) 6) {Q : Int → gS → Prop} (hE : gEnd X G (gPi (fun v s' => Q v s' ∧ gRg s'))) (s : gS) (hs : gRg s) (x1 : Int)  (h : (rng x1) ∧ ((¬ ((0 ≤ x1 ∧ x1 ≤ 9) ∧ gbit (s.1 5 0) x1 = 1) → Q (-1) s) ∧ ((0 ≤ x1 ∧ x1 ≤ 9) ∧ gbit (s.1 5 0) x1 = 1 → (rng (gjudges s)) ∧ ((¬ (gjudges s) = 0 → (gRk s) ∧ (0 ≤ x1 ∧ x1 < 10) ∧ Q (gplace s x1) s) ∧ ((gjudges s) = 0 → Q (-1) s))))) : gWL X G s 0 [(0, gR G 0), (1, vi x1)] [] := by
  refine g_aload_n hX dX7_place_0 0 rfl ?_
  refine g_getR hX sh_0 4 rfl fl_X7_40 dX7_place_1 ?_
  refine g_iload_n hX dX7_place_4 1 rfl ?_
  obtain ⟨h1, h⟩ := h
  refine g_cVf (As := [vi x1]) hX (fun l => c_X2_isSinging l hX.inj s x1 hs h1) sh_5 cv_X7_132 (by decide) rfl (Nat.le_of_ble_eq_true rfl) dX7_place_5 rfl (fun g2 => ?_)
  refine g_ifeq (tgt := 21) hX (gb_rng _) dX7_place_8 (by decide) (fun c3 => ?_) (fun c3 => ?_)
  · replace h := h.1 (gb_eq0.mp c3)
    refine g_iconst hX dX7_place_21 ?_
    exact g_iret hX hE dX7_place_22 ⟨h, hs⟩
  · replace h := h.2 (gb_n0.mp c3)
    refine g_aload_n hX dX7_place_11 0 rfl ?_
    refine g_getR hX sh_0 4 rfl fl_X7_40 dX7_place_12 ?_
    refine g_cVf (As := []) hX (fun l => c_X2_countJudges l hX.inj s  hs) sh_5 cv_X7_128 (by decide) rfl (Nat.le_of_ble_eq_true rfl) dX7_place_15 rfl (fun g4 => ?_)
    obtain ⟨h5, h⟩ := h
    refine g_ifne (tgt := 23) hX h5 dX7_place_18 (by decide) (fun c6 => ?_) (fun c6 => ?_)
    · replace h := h.1 c6
      refine g_aload_n hX dX7_place_23 0 rfl ?_
      refine g_getR hX sh_0 4 rfl fl_X7_40 dX7_place_24 ?_
      refine g_iload_n hX dX7_place_27 1 rfl ?_
      obtain ⟨h7, h⟩ := h
      obtain ⟨h8, h⟩ := h
      refine g_cVf (As := [vi x1]) hX (fun l => c_X2_findPlace l hX.inj s x1 hs h7 h8) sh_5 cv_X7_135 (by decide) rfl (Nat.le_of_ble_eq_true rfl) dX7_place_28 rfl (fun g9 => ?_)
      exact g_iret hX hE dX7_place_31 ⟨h, hs⟩
    · replace h := h.2 (gnn c6)
      refine g_iconst hX dX7_place_21 ?_
      exact g_iret hX hE dX7_place_22 ⟨h, hs⟩
set_option maxRecDepth 100000 in
set_option maxHeartbeats 4000000 in
theorem c_X7_place (l : Launch) {G : gG} (hG : gInj G) (s : gS) (x1 : Int) (p0 : gRg s) (p1 : rng x1) (p2 : gRk s) : gMet l G yX7_place cX7_place 2 (some .int) 6 [gR G 0, vi x1] s (gPi (fun v s' => (v = (if ((0 ≤ x1 ∧ x1 ≤ 9) ∧ gbit (s.1 5 0) x1 = 1) ∧ ¬ gjudges s = 0 then gplace s x1 else -1) ∧ s' = s) ∧ gRg s')) := by
  refine gMet_of (plainFor_of_name (by decide)) hG (Nat.le_of_ble_eq_true rfl) (fun X hX hE => ?_)
  refine bk_X7_place_0 hX hE s p0 x1  ?_
  have hj : 0 ≤ gjudges s ∧ gjudges s ≤ 9 := gJ_bd _
  refine ⟨p1, fun h => ⟨by rw [if_neg (fun z => h z.1)], rfl⟩, fun h => ⟨rng_of (by omega) (by omega), fun h2 => ⟨p2, by omega, by rw [if_pos ⟨h, h2⟩], rfl⟩, fun h2 => ⟨by rw [if_neg (fun z => z.2 h2)], rfl⟩⟩⟩
set_option maxRecDepth 100000 in
set_option maxHeartbeats 4000000 in
theorem bk_X7_ranks_0 {X : gX} {G : gG} (hX : gOk X G cX7_ranks 3 RX7 (some .int) 3) {Q : Int → gS → Prop} (hE : gEnd X G (gPi (fun v s' => Q v s' ∧ gRg s'))) (s : gS) (hs : gRg s) (x1 : Int) (x2 : Int)  (h : (rng x1) ∧ ((¬ ((0 ≤ x1 ∧ x1 ≤ 9) ∧ gbit (s.1 5 0) x1 = 1) → Q (-1) s) ∧ ((0 ≤ x1 ∧ x1 ≤ 9) ∧ gbit (s.1 5 0) x1 = 1 → (rng x2) ∧ ((1 ≤ x2 → (0 ≤ x1 ∧ x1 < 10) ∧ Q (gcr s x1 x2) s) ∧ (x2 < 1 → Q (-1) s))))) : gWL X G s 0 [(0, gR G 0), (1, vi x1), (2, vi x2)] [] := by
  refine g_aload_n hX dX7_ranks_0 0 rfl ?_
  refine g_getR hX sh_0 4 rfl fl_X7_40 dX7_ranks_1 ?_
  refine g_iload_n hX dX7_ranks_4 1 rfl ?_
  obtain ⟨h1, h⟩ := h
  refine g_cVf (As := [vi x1]) hX (fun l => c_X2_isSinging l hX.inj s x1 hs h1) sh_5 cv_X7_132 (by decide) rfl (Nat.le_of_ble_eq_true rfl) dX7_ranks_5 rfl (fun g2 => ?_)
  refine g_ifeq (tgt := 16) hX (gb_rng _) dX7_ranks_8 (by decide) (fun c3 => ?_) (fun c3 => ?_)
  · replace h := h.1 (gb_eq0.mp c3)
    refine g_iconst hX dX7_ranks_16 ?_
    exact g_iret hX hE dX7_ranks_17 ⟨h, hs⟩
  · replace h := h.2 (gb_n0.mp c3)
    refine g_iload_n hX dX7_ranks_11 2 rfl ?_
    refine g_iconst hX dX7_ranks_12 ?_
    obtain ⟨h4, h⟩ := h
    refine g_icge (tgt := 18) hX h4 (by unfold rng; omega) dX7_ranks_13 (by decide) (fun c5 => ?_) (fun c5 => ?_)
    · replace h := h.1 c5
      refine g_aload_n hX dX7_ranks_18 0 rfl ?_
      refine g_getR hX sh_0 4 rfl fl_X7_40 dX7_ranks_19 ?_
      refine g_iload_n hX dX7_ranks_22 1 rfl ?_
      refine g_iload_n hX dX7_ranks_23 2 rfl ?_
      obtain ⟨h6, h⟩ := h
      refine g_cVf (As := [vi x1, vi x2]) hX (fun l => c_X2_countRanks l hX.inj s x1 x2 hs h4 h6) sh_5 cv_X7_138 (by decide) rfl (Nat.le_of_ble_eq_true rfl) dX7_ranks_24 rfl (fun g7 => ?_)
      exact g_iret hX hE dX7_ranks_27 ⟨h, hs⟩
    · replace h := h.2 (Int.not_le.mp c5)
      refine g_iconst hX dX7_ranks_16 ?_
      exact g_iret hX hE dX7_ranks_17 ⟨h, hs⟩
set_option maxRecDepth 100000 in
set_option maxHeartbeats 4000000 in
theorem c_X7_ranks (l : Launch) {G : gG} (hG : gInj G) (s : gS) (x1 : Int) (x2 : Int) (p0 : gRg s) (p1 : rng x1) (p2 : rng x2) : gMet l G yX7_ranks cX7_ranks 3 (some .int) 3 [gR G 0, vi x1, vi x2] s (gPi (fun v s' => (v = (if ((0 ≤ x1 ∧ x1 ≤ 9) ∧ gbit (s.1 5 0) x1 = 1) ∧ 1 ≤ x2 then gcr s x1 x2 else -1) ∧ s' = s) ∧ gRg s')) := by
  refine gMet_of (plainFor_of_name (by decide)) hG (Nat.le_of_ble_eq_true rfl) (fun X hX hE => ?_)
  refine bk_X7_ranks_0 hX hE s p0 x1 x2  ?_
  exact ⟨p1, fun h => ⟨by rw [if_neg (fun z => h z.1)], rfl⟩, fun h => ⟨p2, fun h2 => ⟨by omega, by rw [if_pos ⟨h, h2⟩], rfl⟩, fun h2 => ⟨by rw [if_neg (fun z => by omega)], rfl⟩⟩⟩
set_option maxRecDepth 100000 in
set_option maxHeartbeats 4000000 in
theorem bk_X7_member_0 {X : gX} {G : gG} (hX : gOk X G cX7_member 5 RX7 (some .int) 3) {Q : Int → gS → Prop} (hE : gEnd X G (gPi (fun v s' => Q v s' ∧ gRg s'))) (s : gS) (hs : gRg s) (x1 : Int) (x2 : Int) (x3 : Int) (x4 : Int)  (h : (rng x1) ∧ ((¬ (0 ≤ x1 ∧ x1 ≤ 29) → Q (-1) s) ∧ (0 ≤ x1 ∧ x1 ≤ 29 → (rng x2) ∧ ((0 ≤ x2 ∧ x2 ≤ 9 → (rng x3) ∧ ((¬ (0 ≤ x3 ∧ x3 ≤ 1000) → Q (-1) s) ∧ (0 ≤ x3 ∧ x3 ≤ 1000 → (rng x4) ∧ ((¬ (0 ≤ x4 ∧ x4 ≤ 1000) → Q (-1) s) ∧ (0 ≤ x4 ∧ x4 ≤ 1000 → ((x4 < x3 → Q (-1) s) ∧ (x3 ≤ x4 → (((s.1 6 4) < 60 → (0 ≤ (s.1 6 4) ∧ (s.1 6 4) < 60) ∧ (∀ (v18 : Int) (s16 : gS), ((v18 = (s.1 6 4) + 1 ∧ s16 = gspan s 19 20 21 22 6 4 x1 x2 x3 x4) ∧ gRg s16) → Q v18 s16)) ∧ (60 ≤ (s.1 6 4) → Q (-1) s))))))))) ∧ (¬ (0 ≤ x2 ∧ x2 ≤ 9) → Q (-1) s))))) : gWL X G s 0 [(0, gR G 0), (1, vi x1), (2, vi x2), (3, vi x3), (4, vi x4)] [] := by
  refine g_iload_n hX dX7_member_0 1 rfl ?_
  refine g_iconst hX dX7_member_1 ?_
  refine g_bipush hX dX7_member_2 rfl ?_
  obtain ⟨h1, h⟩ := h
  refine g_cSf (As := [vi x1, vi 0, vi 29]) hX (fun l => c_X7_isWithin l hX.inj s x1 0 29 hs h1 (by unfold rng; omega) (by unfold rng; omega)) cv_X7_62 (by decide) rfl (Nat.le_of_ble_eq_true rfl) dX7_member_4 rfl (fun g2 => ?_)
  refine g_ifeq (tgt := 20) hX (gb_rng _) dX7_member_7 (by decide) (fun c3 => ?_) (fun c3 => ?_)
  · replace h := h.1 (gb_eq0.mp c3)
    refine g_iconst hX dX7_member_20 ?_
    exact g_iret hX hE dX7_member_21 ⟨h, hs⟩
  · replace h := h.2 (gb_n0.mp c3)
    refine g_iload_n hX dX7_member_10 2 rfl ?_
    refine g_iconst hX dX7_member_11 ?_
    refine g_bipush hX dX7_member_12 rfl ?_
    obtain ⟨h4, h⟩ := h
    refine g_cSf (As := [vi x2, vi 0, vi 9]) hX (fun l => c_X7_isWithin l hX.inj s x2 0 9 hs h4 (by unfold rng; omega) (by unfold rng; omega)) cv_X7_62 (by decide) rfl (Nat.le_of_ble_eq_true rfl) dX7_member_14 rfl (fun g5 => ?_)
    refine g_ifne (tgt := 22) hX (gb_rng _) dX7_member_17 (by decide) (fun c6 => ?_) (fun c6 => ?_)
    · replace h := h.1 (gb_n0.mp c6)
      refine g_iload_n hX dX7_member_22 3 rfl ?_
      obtain ⟨h7, h⟩ := h
      refine g_cSf (As := [vi x3]) hX (fun l => c_X7_isDay l hX.inj s x3 hs h7) cv_X7_141 (by decide) rfl (Nat.le_of_ble_eq_true rfl) dX7_member_23 rfl (fun g8 => ?_)
      refine g_ifeq (tgt := 55) hX (gb_rng _) dX7_member_26 (by decide) (fun c9 => ?_) (fun c9 => ?_)
      · replace h := h.1 (gb_eq0.mp c9)
        refine g_iconst hX dX7_member_55 ?_
        exact g_iret hX hE dX7_member_56 ⟨h, hs⟩
      · replace h := h.2 (gb_n0.mp c9)
        refine g_iload hX dX7_member_29 4 rfl ?_
        obtain ⟨h10, h⟩ := h
        refine g_cSf (As := [vi x4]) hX (fun l => c_X7_isDay l hX.inj s x4 hs h10) cv_X7_141 (by decide) rfl (Nat.le_of_ble_eq_true rfl) dX7_member_31 rfl (fun g11 => ?_)
        refine g_ifeq (tgt := 55) hX (gb_rng _) dX7_member_34 (by decide) (fun c12 => ?_) (fun c12 => ?_)
        · replace h := h.1 (gb_eq0.mp c12)
          refine g_iconst hX dX7_member_55 ?_
          exact g_iret hX hE dX7_member_56 ⟨h, hs⟩
        · replace h := h.2 (gb_n0.mp c12)
          refine g_iload_n hX dX7_member_37 3 rfl ?_
          refine g_iload hX dX7_member_38 4 rfl ?_
          refine g_icgt (tgt := 55) hX h7 h10 dX7_member_40 (by decide) (fun c13 => ?_) (fun c13 => ?_)
          · replace h := h.1 c13
            refine g_iconst hX dX7_member_55 ?_
            exact g_iret hX hE dX7_member_56 ⟨h, hs⟩
          · replace h := h.2 (Int.not_lt.mp c13)
            refine g_aload_n hX dX7_member_43 0 rfl ?_
            refine g_getR hX sh_0 5 rfl fl_X7_47 dX7_member_44 ?_
            refine g_getI hX sh_6 4 rfl fl_X7_144 dX7_member_47 ?_
            refine g_bipush hX dX7_member_50 rfl ?_
            refine g_iclt (tgt := 57) hX (hs.1 _ _) (by unfold rng; omega) dX7_member_52 (by decide) (fun c14 => ?_) (fun c14 => ?_)
            · replace h := h.1 c14
              refine g_aload_n hX dX7_member_57 0 rfl ?_
              refine g_getR hX sh_0 5 rfl fl_X7_47 dX7_member_58 ?_
              refine g_iload_n hX dX7_member_61 1 rfl ?_
              refine g_iload_n hX dX7_member_62 2 rfl ?_
              refine g_iload_n hX dX7_member_63 3 rfl ?_
              refine g_iload hX dX7_member_64 4 rfl ?_
              obtain ⟨h15, h⟩ := h
              refine g_cVr (As := [vi x1, vi x2, vi x3, vi x4]) hX (fun l => c_X5_addSpan l hX.inj s x1 x2 x3 x4 hs h1 h4 h7 h10 h15) sh_6 cv_X7_145 (by decide) rfl (Nat.le_of_ble_eq_true rfl) dX7_member_66 rfl (fun v18 s16 q17 => ?_)
              replace h := h v18 s16 q17
              have rs16 : gRg s16 := q17.2
              exact g_iret hX hE dX7_member_69 ⟨h, rs16⟩
            · replace h := h.2 (Int.not_lt.mp c14)
              refine g_iconst hX dX7_member_55 ?_
              exact g_iret hX hE dX7_member_56 ⟨h, hs⟩
    · replace h := h.2 (gb_eq0.mp (gnn c6))
      refine g_iconst hX dX7_member_20 ?_
      exact g_iret hX hE dX7_member_21 ⟨h, hs⟩
set_option maxRecDepth 100000 in
set_option maxHeartbeats 4000000 in
theorem c_X7_member (l : Launch) {G : gG} (hG : gInj G) (s : gS) (x1 : Int) (x2 : Int) (x3 : Int) (x4 : Int) (p0 : gRg s) (p1 : rng x1) (p2 : rng x2) (p3 : rng x3) (p4 : rng x4) (p5 : 0 ≤ (s.1 6 4) ∧ (s.1 6 4) ≤ 60) : gMet l G yX7_member cX7_member 5 (some .int) 3 [gR G 0, vi x1, vi x2, vi x3, vi x4] s (gPi (fun v s' => (if (0 ≤ x1 ∧ x1 ≤ 29) ∧ (0 ≤ x2 ∧ x2 ≤ 9) ∧ (0 ≤ x3 ∧ x3 ≤ 1000) ∧ (x3 ≤ x4 ∧ x4 ≤ 1000) ∧ (s.1 6 4) < 60 then v = (s.1 6 4) + 1 ∧ s' = gspan s 19 20 21 22 6 4 x1 x2 x3 x4 else v = -1 ∧ s' = s) ∧ gRg s')) := by
  refine gMet_of (plainFor_of_name (by decide)) hG (Nat.le_of_ble_eq_true rfl) (fun X hX hE => ?_)
  refine bk_X7_member_0 hX hE s p0 x1 x2 x3 x4  ?_
  refine ⟨p1, fun a1 => ?_, fun a1 => ⟨p2, fun a2 => ⟨p3, fun a3 => ?_, fun a3 => ⟨p4, fun a4 => ?_, fun a4 => ⟨fun a5 => ?_, fun a5 => ⟨fun a6 => ⟨by omega, fun v t h => ?_⟩, fun a6 => ?_⟩⟩⟩⟩, fun a2 => ?_⟩⟩
  · rw [if_neg (by omega)]; exact ⟨rfl, rfl⟩
  · rw [if_neg (by omega)]; exact ⟨rfl, rfl⟩
  · rw [if_neg (by omega)]; exact ⟨rfl, rfl⟩
  · rw [if_neg (by omega)]; exact ⟨rfl, rfl⟩
  · rw [if_pos (by omega)]; exact h.1
  · rw [if_neg (by omega)]; exact ⟨rfl, rfl⟩
  · rw [if_neg (by omega)]; exact ⟨rfl, rfl⟩
set_option maxRecDepth 100000 in
set_option maxHeartbeats 4000000 in
theorem bk_X7_may_0 {X : gX} {G : gG} (hX : gOk X G cX7_may 4 RX7 (some .int) 3) {Q : Int → gS → Prop} (hE : gEnd X G (gPi (fun v s' => Q v s' ∧ gRg s'))) (s : gS) (hs : gRg s) (x1 : Int) (x2 : Int) (x3 : Int)  (h : (rng x1) ∧ ((¬ (0 ≤ x1 ∧ x1 ≤ 29) → Q (-1) s) ∧ (0 ≤ x1 ∧ x1 ≤ 29 → (rng x2) ∧ ((¬ (0 ≤ x2 ∧ x2 ≤ 9) → Q (-1) s) ∧ (0 ≤ x2 ∧ x2 ≤ 9 → (rng x3) ∧ ((0 ≤ x3 ∧ x3 ≤ 1000 → (0 ≤ (s.1 6 4) ∧ (s.1 6 4) ≤ 60) ∧ Q (gand (gshr (gsing s.2 19 20 21 22 x2 x3 (s.1 6 4)) x1) 1) s) ∧ (¬ (0 ≤ x3 ∧ x3 ≤ 1000) → Q (-1) s))))))) : gWL X G s 0 [(0, gR G 0), (1, vi x1), (2, vi x2), (3, vi x3)] [] := by
  refine g_iload_n hX dX7_may_0 1 rfl ?_
  refine g_iconst hX dX7_may_1 ?_
  refine g_bipush hX dX7_may_2 rfl ?_
  obtain ⟨h1, h⟩ := h
  refine g_cSf (As := [vi x1, vi 0, vi 29]) hX (fun l => c_X7_isWithin l hX.inj s x1 0 29 hs h1 (by unfold rng; omega) (by unfold rng; omega)) cv_X7_62 (by decide) rfl (Nat.le_of_ble_eq_true rfl) dX7_may_4 rfl (fun g2 => ?_)
  refine g_ifeq (tgt := 27) hX (gb_rng _) dX7_may_7 (by decide) (fun c3 => ?_) (fun c3 => ?_)
  · replace h := h.1 (gb_eq0.mp c3)
    refine g_iconst hX dX7_may_27 ?_
    exact g_iret hX hE dX7_may_28 ⟨h, hs⟩
  · replace h := h.2 (gb_n0.mp c3)
    refine g_iload_n hX dX7_may_10 2 rfl ?_
    refine g_iconst hX dX7_may_11 ?_
    refine g_bipush hX dX7_may_12 rfl ?_
    obtain ⟨h4, h⟩ := h
    refine g_cSf (As := [vi x2, vi 0, vi 9]) hX (fun l => c_X7_isWithin l hX.inj s x2 0 9 hs h4 (by unfold rng; omega) (by unfold rng; omega)) cv_X7_62 (by decide) rfl (Nat.le_of_ble_eq_true rfl) dX7_may_14 rfl (fun g5 => ?_)
    refine g_ifeq (tgt := 27) hX (gb_rng _) dX7_may_17 (by decide) (fun c6 => ?_) (fun c6 => ?_)
    · replace h := h.1 (gb_eq0.mp c6)
      refine g_iconst hX dX7_may_27 ?_
      exact g_iret hX hE dX7_may_28 ⟨h, hs⟩
    · replace h := h.2 (gb_n0.mp c6)
      refine g_iload_n hX dX7_may_20 3 rfl ?_
      obtain ⟨h7, h⟩ := h
      refine g_cSf (As := [vi x3]) hX (fun l => c_X7_isDay l hX.inj s x3 hs h7) cv_X7_141 (by decide) rfl (Nat.le_of_ble_eq_true rfl) dX7_may_21 rfl (fun g8 => ?_)
      refine g_ifne (tgt := 29) hX (gb_rng _) dX7_may_24 (by decide) (fun c9 => ?_) (fun c9 => ?_)
      · replace h := h.1 (gb_n0.mp c9)
        refine g_aload_n hX dX7_may_29 0 rfl ?_
        refine g_getR hX sh_0 5 rfl fl_X7_47 dX7_may_30 ?_
        refine g_iload_n hX dX7_may_33 2 rfl ?_
        refine g_iload_n hX dX7_may_34 3 rfl ?_
        obtain ⟨h10, h⟩ := h
        refine g_cVf (As := [vi x2, vi x3]) hX (fun l => c_X5_findSingers l hX.inj s x2 x3 hs h4 h7 h10) sh_6 cv_X7_149 (by decide) rfl (Nat.le_of_ble_eq_true rfl) dX7_may_35 rfl (fun g11 => ?_)
        refine g_iload_n hX dX7_may_38 1 rfl ?_
        refine g_ishr hX dX7_may_39 ?_
        refine g_iconst hX dX7_may_40 ?_
        refine g_iand hX dX7_may_41 ?_
        exact g_iret hX hE dX7_may_42 ⟨h, hs⟩
      · replace h := h.2 (gb_eq0.mp (gnn c9))
        refine g_iconst hX dX7_may_27 ?_
        exact g_iret hX hE dX7_may_28 ⟨h, hs⟩
set_option maxRecDepth 100000 in
set_option maxHeartbeats 4000000 in
theorem c_X7_may (l : Launch) {G : gG} (hG : gInj G) (s : gS) (x1 : Int) (x2 : Int) (x3 : Int) (p0 : gRg s) (p1 : rng x1) (p2 : rng x2) (p3 : rng x3) (p4 : 0 ≤ (s.1 6 4) ∧ (s.1 6 4) ≤ 60) : gMet l G yX7_may cX7_may 4 (some .int) 3 [gR G 0, vi x1, vi x2, vi x3] s (gPi (fun v s' => (v = (if (0 ≤ x1 ∧ x1 ≤ 29) ∧ (0 ≤ x2 ∧ x2 ≤ 9) ∧ (0 ≤ x3 ∧ x3 ≤ 1000) then gand (gshr (gsing s.2 19 20 21 22 x2 x3 (s.1 6 4)) x1) 1 else -1) ∧ s' = s) ∧ gRg s')) := by
  refine gMet_of (plainFor_of_name (by decide)) hG (Nat.le_of_ble_eq_true rfl) (fun X hX hE => ?_)
  refine bk_X7_may_0 hX hE s p0 x1 x2 x3  ?_
  refine ⟨p1, fun a1 => ⟨by rw [if_neg (by omega)], rfl⟩, fun a1 => ⟨p2, fun a2 => ⟨by rw [if_neg (by omega)], rfl⟩, fun a2 => ⟨p3, fun a3 => ⟨p4, by rw [if_pos (by omega)], rfl⟩, fun a3 => ⟨by rw [if_neg (by omega)], rfl⟩⟩⟩⟩
set_option maxRecDepth 100000 in
set_option maxHeartbeats 4000000 in
theorem bk_X7_singers_0 {X : gX} {G : gG} (hX : gOk X G cX7_singers 3 RX7 (some .int) 3) {Q : Int → gS → Prop} (hE : gEnd X G (gPi (fun v s' => Q v s' ∧ gRg s'))) (s : gS) (hs : gRg s) (x1 : Int) (x2 : Int)  (h : (rng x1) ∧ ((¬ (0 ≤ x1 ∧ x1 ≤ 9) → Q (-1) s) ∧ (0 ≤ x1 ∧ x1 ≤ 9 → (rng x2) ∧ ((0 ≤ x2 ∧ x2 ≤ 1000 → (0 ≤ (s.1 6 4) ∧ (s.1 6 4) ≤ 60) ∧ Q (gsing s.2 19 20 21 22 x1 x2 (s.1 6 4)) s) ∧ (¬ (0 ≤ x2 ∧ x2 ≤ 1000) → Q (-1) s))))) : gWL X G s 0 [(0, gR G 0), (1, vi x1), (2, vi x2)] [] := by
  refine g_iload_n hX dX7_singers_0 1 rfl ?_
  refine g_iconst hX dX7_singers_1 ?_
  refine g_bipush hX dX7_singers_2 rfl ?_
  obtain ⟨h1, h⟩ := h
  refine g_cSf (As := [vi x1, vi 0, vi 9]) hX (fun l => c_X7_isWithin l hX.inj s x1 0 9 hs h1 (by unfold rng; omega) (by unfold rng; omega)) cv_X7_62 (by decide) rfl (Nat.le_of_ble_eq_true rfl) dX7_singers_4 rfl (fun g2 => ?_)
  refine g_ifeq (tgt := 17) hX (gb_rng _) dX7_singers_7 (by decide) (fun c3 => ?_) (fun c3 => ?_)
  · replace h := h.1 (gb_eq0.mp c3)
    refine g_iconst hX dX7_singers_17 ?_
    exact g_iret hX hE dX7_singers_18 ⟨h, hs⟩
  · replace h := h.2 (gb_n0.mp c3)
    refine g_iload_n hX dX7_singers_10 2 rfl ?_
    obtain ⟨h4, h⟩ := h
    refine g_cSf (As := [vi x2]) hX (fun l => c_X7_isDay l hX.inj s x2 hs h4) cv_X7_141 (by decide) rfl (Nat.le_of_ble_eq_true rfl) dX7_singers_11 rfl (fun g5 => ?_)
    refine g_ifne (tgt := 19) hX (gb_rng _) dX7_singers_14 (by decide) (fun c6 => ?_) (fun c6 => ?_)
    · replace h := h.1 (gb_n0.mp c6)
      refine g_aload_n hX dX7_singers_19 0 rfl ?_
      refine g_getR hX sh_0 5 rfl fl_X7_47 dX7_singers_20 ?_
      refine g_iload_n hX dX7_singers_23 1 rfl ?_
      refine g_iload_n hX dX7_singers_24 2 rfl ?_
      obtain ⟨h7, h⟩ := h
      refine g_cVf (As := [vi x1, vi x2]) hX (fun l => c_X5_findSingers l hX.inj s x1 x2 hs h1 h4 h7) sh_6 cv_X7_149 (by decide) rfl (Nat.le_of_ble_eq_true rfl) dX7_singers_25 rfl (fun g8 => ?_)
      exact g_iret hX hE dX7_singers_28 ⟨h, hs⟩
    · replace h := h.2 (gb_eq0.mp (gnn c6))
      refine g_iconst hX dX7_singers_17 ?_
      exact g_iret hX hE dX7_singers_18 ⟨h, hs⟩
set_option maxRecDepth 100000 in
set_option maxHeartbeats 4000000 in
theorem c_X7_singers (l : Launch) {G : gG} (hG : gInj G) (s : gS) (x1 : Int) (x2 : Int) (p0 : gRg s) (p1 : rng x1) (p2 : rng x2) (p3 : 0 ≤ (s.1 6 4) ∧ (s.1 6 4) ≤ 60) : gMet l G yX7_singers cX7_singers 3 (some .int) 3 [gR G 0, vi x1, vi x2] s (gPi (fun v s' => (v = (if (0 ≤ x1 ∧ x1 ≤ 9) ∧ (0 ≤ x2 ∧ x2 ≤ 1000) then gsing s.2 19 20 21 22 x1 x2 (s.1 6 4) else -1) ∧ s' = s) ∧ gRg s')) := by
  refine gMet_of (plainFor_of_name (by decide)) hG (Nat.le_of_ble_eq_true rfl) (fun X hX hE => ?_)
  refine bk_X7_singers_0 hX hE s p0 x1 x2  ?_
  refine ⟨p1, fun a1 => ⟨by rw [if_neg (by omega)], rfl⟩, fun a1 => ⟨p2, fun a2 => ⟨p3, by rw [if_pos (by omega)], rfl⟩, fun a2 => ⟨by rw [if_neg (by omega)], rfl⟩⟩⟩
set_option maxRecDepth 100000 in
set_option maxHeartbeats 4000000 in
theorem bk_X7_perform_0 {X : gX} {G : gG} (hX : gOk X G cX7_perform 2 RX7 (some .int) 2) {Q : Int → gS → Prop} (hE : gEnd X G (gPi (fun v s' => Q v s' ∧ gRg s'))) (s : gS) (hs : gRg s) (x1 : Int)  (h : (rng x1) ∧ ((¬ (0 ≤ x1 ∧ x1 ≤ 9) → Q (-1) s) ∧ (0 ≤ x1 ∧ x1 ≤ 9 → (((s.1 7 1) < 12 → (0 ≤ (s.1 7 1) ∧ (s.1 7 1) < 12) ∧ (∀ (v8 : Int) (s6 : gS), ((v8 = (s.1 7 1) ∧ s6 = gpI (gpA s 24 (s.1 7 1) x1) 7 1 ((s.1 7 1) + 1)) ∧ gRg s6) → Q v8 s6)) ∧ (12 ≤ (s.1 7 1) → Q (-1) s))))) : gWL X G s 0 [(0, gR G 0), (1, vi x1)] [] := by
  refine g_iload_n hX dX7_perform_0 1 rfl ?_
  refine g_iconst hX dX7_perform_1 ?_
  refine g_bipush hX dX7_perform_2 rfl ?_
  obtain ⟨h1, h⟩ := h
  refine g_cSf (As := [vi x1, vi 0, vi 9]) hX (fun l => c_X7_isWithin l hX.inj s x1 0 9 hs h1 (by unfold rng; omega) (by unfold rng; omega)) cv_X7_62 (by decide) rfl (Nat.le_of_ble_eq_true rfl) dX7_perform_4 rfl (fun g2 => ?_)
  refine g_ifeq (tgt := 22) hX (gb_rng _) dX7_perform_7 (by decide) (fun c3 => ?_) (fun c3 => ?_)
  · replace h := h.1 (gb_eq0.mp c3)
    refine g_iconst hX dX7_perform_22 ?_
    exact g_iret hX hE dX7_perform_23 ⟨h, hs⟩
  · replace h := h.2 (gb_n0.mp c3)
    refine g_aload_n hX dX7_perform_10 0 rfl ?_
    refine g_getR hX sh_0 6 rfl fl_X7_54 dX7_perform_11 ?_
    refine g_getI hX sh_7 1 rfl fl_X7_152 dX7_perform_14 ?_
    refine g_bipush hX dX7_perform_17 rfl ?_
    refine g_iclt (tgt := 24) hX (hs.1 _ _) (by unfold rng; omega) dX7_perform_19 (by decide) (fun c4 => ?_) (fun c4 => ?_)
    · replace h := h.1 c4
      refine g_aload_n hX dX7_perform_24 0 rfl ?_
      refine g_getR hX sh_0 6 rfl fl_X7_54 dX7_perform_25 ?_
      refine g_iload_n hX dX7_perform_28 1 rfl ?_
      obtain ⟨h5, h⟩ := h
      refine g_cVr (As := [vi x1]) hX (fun l => c_X6_addPerformance l hX.inj s x1 hs h1 h5) sh_7 cv_X7_153 (by decide) rfl (Nat.le_of_ble_eq_true rfl) dX7_perform_29 rfl (fun v8 s6 q7 => ?_)
      replace h := h v8 s6 q7
      have rs6 : gRg s6 := q7.2
      exact g_iret hX hE dX7_perform_32 ⟨h, rs6⟩
    · replace h := h.2 (Int.not_lt.mp c4)
      refine g_iconst hX dX7_perform_22 ?_
      exact g_iret hX hE dX7_perform_23 ⟨h, hs⟩
set_option maxRecDepth 100000 in
set_option maxHeartbeats 4000000 in
theorem c_X7_perform (l : Launch) {G : gG} (hG : gInj G) (s : gS) (x1 : Int) (p0 : gRg s) (p1 : rng x1) (p2 : 0 ≤ (s.1 7 1) ∧ (s.1 7 1) ≤ 12) : gMet l G yX7_perform cX7_perform 2 (some .int) 2 [gR G 0, vi x1] s (gPi (fun v s' => (if (0 ≤ x1 ∧ x1 ≤ 9) ∧ s.1 7 1 < 12 then v = s.1 7 1 ∧ s' = gpI (gpA s 24 (s.1 7 1) x1) 7 1 ((s.1 7 1) + 1) else v = -1 ∧ s' = s) ∧ gRg s')) := by
  refine gMet_of (plainFor_of_name (by decide)) hG (Nat.le_of_ble_eq_true rfl) (fun X hX hE => ?_)
  refine bk_X7_perform_0 hX hE s p0 x1  ?_
  refine ⟨p1, fun a1 => ?_, fun a1 => ⟨fun a2 => ⟨by omega, fun v t h => ?_⟩, fun a2 => ?_⟩⟩
  · rw [if_neg (by omega)]; exact ⟨rfl, rfl⟩
  · rw [if_pos (by omega)]; exact h.1
  · rw [if_neg (by omega)]; exact ⟨rfl, rfl⟩
set_option maxRecDepth 100000 in
set_option maxHeartbeats 4000000 in
theorem bk_X7_clear_0 {X : gX} {G : gG} (hX : gOk X G cX7_clear 2 RX7 (some .int) 1) {Q : Int → gS → Prop} (hE : gEnd X G (gPi (fun v s' => Q v s' ∧ gRg s'))) (s : gS) (hs : gRg s)   (h : Q (s.1 7 1) (gpI s 7 1 0)) : gWL X G s 0 [(0, gR G 0)] [] := by
  refine g_aload_n hX dX7_clear_0 0 rfl ?_
  refine g_getR hX sh_0 6 rfl fl_X7_54 dX7_clear_1 ?_
  refine g_getI hX sh_7 1 rfl fl_X7_152 dX7_clear_4 ?_
  refine g_istore_n (loc' := [(1, vi (s.1 7 1)), (0, gR G 0)]) hX dX7_clear_7 (by decide) rfl ?_
  refine g_aload_n hX dX7_clear_8 1 rfl ?_
  refine g_getR hX sh_0 6 rfl fl_X7_54 dX7_clear_9 ?_
  refine g_iconst hX dX7_clear_12 ?_
  refine g_putI hX sh_7 1 rfl fl_X7_152 (fun _ _ _ e => by cases e; rfl) dX7_clear_13 ?_
  refine g_iload_n hX dX7_clear_16 0 rfl ?_
  exact g_iret hX hE dX7_clear_17 ⟨h, (gRg_I hs (by unfold rng; omega))⟩
set_option maxRecDepth 100000 in
set_option maxHeartbeats 4000000 in
theorem c_X7_clear (l : Launch) {G : gG} (hG : gInj G) (s : gS)  (p0 : gRg s) : gMet l G yX7_clear cX7_clear 2 (some .int) 1 [gR G 0] s (gPi (fun v s' => (v = s.1 7 1 ∧ s' = gpI s 7 1 0) ∧ gRg s')) := by
  refine gMet_of (plainFor_of_name (by decide)) hG (Nat.le_of_ble_eq_true rfl) (fun X hX hE => ?_)
  refine bk_X7_clear_0 hX hE s p0   ?_
  exact ⟨rfl, rfl⟩
set_option maxRecDepth 100000 in
set_option maxHeartbeats 4000000 in
theorem bk_X7_halls_0 {X : gX} {G : gG} (hX : gOk X G cX7_halls 3 RX7 (some .int) 2) {Q : Int → gS → Prop} (hE : gEnd X G (gPi (fun v s' => Q v s' ∧ gRg s'))) (s : gS) (hs : gRg s) (x1 : Int)  (h : (rng x1) ∧ ((1 ≤ x1 ∧ x1 ≤ 4 → Q (s.1 7 2) (gpI s 7 2 x1)) ∧ (¬ (1 ≤ x1 ∧ x1 ≤ 4) → Q (-1) s))) : gWL X G s 0 [(0, gR G 0), (1, vi x1)] [] := by
  refine g_iload_n hX dX7_halls_0 1 rfl ?_
  refine g_iconst hX dX7_halls_1 ?_
  refine g_iconst hX dX7_halls_2 ?_
  obtain ⟨h1, h⟩ := h
  refine g_cSf (As := [vi x1, vi 1, vi 4]) hX (fun l => c_X7_isWithin l hX.inj s x1 1 4 hs h1 (by unfold rng; omega) (by unfold rng; omega)) cv_X7_62 (by decide) rfl (Nat.le_of_ble_eq_true rfl) dX7_halls_3 rfl (fun g2 => ?_)
  refine g_ifne (tgt := 11) hX (gb_rng _) dX7_halls_6 (by decide) (fun c3 => ?_) (fun c3 => ?_)
  · replace h := h.1 (gb_n0.mp c3)
    refine g_aload_n hX dX7_halls_11 0 rfl ?_
    refine g_getR hX sh_0 6 rfl fl_X7_54 dX7_halls_12 ?_
    refine g_getI hX sh_7 2 rfl fl_X7_156 dX7_halls_15 ?_
    refine g_istore_n (loc' := [(2, vi (s.1 7 2)), (0, gR G 0), (1, vi x1)]) hX dX7_halls_18 (by decide) rfl ?_
    refine g_aload_n hX dX7_halls_19 1 rfl ?_
    refine g_getR hX sh_0 6 rfl fl_X7_54 dX7_halls_20 ?_
    refine g_iload_n hX dX7_halls_23 2 rfl ?_
    refine g_putI hX sh_7 2 rfl fl_X7_156 (fun _ _ _ e => by cases e; rfl) dX7_halls_24 ?_
    refine g_iload_n hX dX7_halls_27 0 rfl ?_
    exact g_iret hX hE dX7_halls_28 ⟨h, (gRg_I hs h1)⟩
  · replace h := h.2 (gb_eq0.mp (gnn c3))
    refine g_iconst hX dX7_halls_9 ?_
    exact g_iret hX hE dX7_halls_10 ⟨h, hs⟩
set_option maxRecDepth 100000 in
set_option maxHeartbeats 4000000 in
theorem c_X7_halls (l : Launch) {G : gG} (hG : gInj G) (s : gS) (x1 : Int) (p0 : gRg s) (p1 : rng x1) : gMet l G yX7_halls cX7_halls 3 (some .int) 2 [gR G 0, vi x1] s (gPi (fun v s' => (if (1 ≤ x1 ∧ x1 ≤ 4) then v = s.1 7 2 ∧ s' = gpI s 7 2 x1 else v = -1 ∧ s' = s) ∧ gRg s')) := by
  refine gMet_of (plainFor_of_name (by decide)) hG (Nat.le_of_ble_eq_true rfl) (fun X hX hE => ?_)
  refine bk_X7_halls_0 hX hE s p0 x1  ?_
  refine ⟨p1, fun h => ?_, fun h => ?_⟩
  · rw [if_pos h]; exact ⟨rfl, rfl⟩
  · rw [if_neg h]; exact ⟨rfl, rfl⟩
set_option maxRecDepth 100000 in
set_option maxHeartbeats 4000000 in
theorem bk_X7_hours_0 {X : gX} {G : gG} (hX : gOk X G cX7_hours 2 RX7 (some .int) 17) {Q : Int → gS → Prop} (hE : gEnd X G (gPi (fun v s' => Q v s' ∧ gRg s'))) (s : gS) (hs : gRg s) (x1 : Int)  (h : (rng x1) ∧ ((0 ≤ x1 ∧ x1 ≤ 1000 → (cTt s) ∧ (0 ≤ (s.1 6 4) ∧ (s.1 6 4) ≤ 60) ∧ (∀ (v8 : Int) (s6 : gS), ((ghours s s6 x1 v8) ∧ gRg s6) → Q v8 s6)) ∧ (¬ (0 ≤ x1 ∧ x1 ≤ 1000) → Q (-1) s))) : gWL X G s 0 [(0, gR G 0), (1, vi x1)] [] := by
  refine g_iload_n hX dX7_hours_0 1 rfl ?_
  obtain ⟨h1, h⟩ := h
  refine g_cSf (As := [vi x1]) hX (fun l => c_X7_isDay l hX.inj s x1 hs h1) cv_X7_141 (by decide) rfl (Nat.le_of_ble_eq_true rfl) dX7_hours_1 rfl (fun g2 => ?_)
  refine g_ifne (tgt := 9) hX (gb_rng _) dX7_hours_4 (by decide) (fun c3 => ?_) (fun c3 => ?_)
  · replace h := h.1 (gb_n0.mp c3)
    refine g_aload_n hX dX7_hours_9 0 rfl ?_
    refine g_getR hX sh_0 6 rfl fl_X7_54 dX7_hours_10 ?_
    refine g_aload_n hX dX7_hours_13 0 rfl ?_
    refine g_getR hX sh_0 5 rfl fl_X7_47 dX7_hours_14 ?_
    refine g_iload_n hX dX7_hours_17 1 rfl ?_
    obtain ⟨h4, h⟩ := h
    obtain ⟨h5, h⟩ := h
    refine g_cVr (As := [gR G 6, vi x1]) hX (fun l => c_X6_findHours l hX.inj s 6 x1 hs h1 h4 h5) sh_7 cv_X7_159 (by decide) rfl (Nat.le_of_ble_eq_true rfl) dX7_hours_18 rfl (fun v8 s6 q7 => ?_)
    replace h := h v8 s6 q7
    have rs6 : gRg s6 := q7.2
    exact g_iret hX hE dX7_hours_21 ⟨h, rs6⟩
  · replace h := h.2 (gb_eq0.mp (gnn c3))
    refine g_iconst hX dX7_hours_7 ?_
    exact g_iret hX hE dX7_hours_8 ⟨h, hs⟩
set_option maxRecDepth 100000 in
set_option maxHeartbeats 4000000 in
theorem c_X7_hours (l : Launch) {G : gG} (hG : gInj G) (s : gS) (x1 : Int) (p0 : gRg s) (p1 : rng x1) (p2 : cTt s) (p3 : 0 ≤ (s.1 6 4) ∧ (s.1 6 4) ≤ 60) : gMet l G yX7_hours cX7_hours 2 (some .int) 17 [gR G 0, vi x1] s (gPi (fun v s' => (((0 ≤ x1 ∧ x1 ≤ 1000) → ghours s s' x1 v) ∧ (¬ (0 ≤ x1 ∧ x1 ≤ 1000) → v = -1 ∧ s' = s)) ∧ gRg s')) := by
  refine gMet_of (plainFor_of_name (by decide)) hG (Nat.le_of_ble_eq_true rfl) (fun X hX hE => ?_)
  refine bk_X7_hours_0 hX hE s p0 x1  ?_
  exact ⟨p1, fun h => ⟨p2, p3, fun v t z => ⟨fun _ => z.1, fun y => absurd h y⟩⟩, fun h => ⟨fun z => absurd z h, fun _ => ⟨rfl, rfl⟩⟩⟩
set_option maxRecDepth 100000 in
set_option maxHeartbeats 4000000 in
theorem bk_X7_hour_0 {X : gX} {G : gG} (hX : gOk X G cX7_hour 2 RX7 (some .int) 2) {Q : Int → gS → Prop} (hE : gEnd X G (gPi (fun v s' => Q v s' ∧ gRg s'))) (s : gS) (hs : gRg s) (x1 : Int)  (h : (rng x1) ∧ (rng ((s.1 7 3) - 1)) ∧ ((0 ≤ x1 ∧ x1 ≤ ((s.1 7 3) - 1) → (0 ≤ x1 ∧ x1 < 12) ∧ Q (s.2 23 x1) s) ∧ (¬ (0 ≤ x1 ∧ x1 ≤ ((s.1 7 3) - 1)) → Q (-1) s))) : gWL X G s 0 [(0, gR G 0), (1, vi x1)] [] := by
  refine g_iload_n hX dX7_hour_0 1 rfl ?_
  refine g_iconst hX dX7_hour_1 ?_
  refine g_aload_n hX dX7_hour_2 0 rfl ?_
  refine g_getR hX sh_0 6 rfl fl_X7_54 dX7_hour_3 ?_
  refine g_getI hX sh_7 3 rfl fl_X7_163 dX7_hour_6 ?_
  refine g_iconst hX dX7_hour_9 ?_
  refine g_isub hX dX7_hour_10 ?_
  obtain ⟨h1, h⟩ := h
  obtain ⟨h2, h⟩ := h
  refine g_cSf (As := [vi x1, vi 0, vi ((s.1 7 3) - 1)]) hX (fun l => c_X7_isWithin l hX.inj s x1 0 ((s.1 7 3) - 1) hs h1 (by unfold rng; omega) h2) cv_X7_62 (by decide) rfl (Nat.le_of_ble_eq_true rfl) dX7_hour_11 rfl (fun g3 => ?_)
  refine g_ifne (tgt := 19) hX (gb_rng _) dX7_hour_14 (by decide) (fun c4 => ?_) (fun c4 => ?_)
  · replace h := h.1 (gb_n0.mp c4)
    refine g_aload_n hX dX7_hour_19 0 rfl ?_
    refine g_getR hX sh_0 6 rfl fl_X7_54 dX7_hour_20 ?_
    refine g_getR hX sh_7 0 rfl fl_X7_166 dX7_hour_23 ?_
    refine g_iload_n hX dX7_hour_26 1 rfl ?_
    obtain ⟨h5, h⟩ := h
    refine g_iald hX sh_23 h5 (by decide) dX7_hour_27 ?_
    exact g_iret hX hE dX7_hour_28 ⟨h, hs⟩
  · replace h := h.2 (gb_eq0.mp (gnn c4))
    refine g_iconst hX dX7_hour_17 ?_
    exact g_iret hX hE dX7_hour_18 ⟨h, hs⟩
set_option maxRecDepth 100000 in
set_option maxHeartbeats 4000000 in
theorem c_X7_hour (l : Launch) {G : gG} (hG : gInj G) (s : gS) (x1 : Int) (p0 : gRg s) (p1 : rng x1) (p2 : 0 ≤ (s.1 7 3) ∧ (s.1 7 3) ≤ 12) : gMet l G yX7_hour cX7_hour 2 (some .int) 2 [gR G 0, vi x1] s (gPi (fun v s' => (v = (if 0 ≤ x1 ∧ x1 < s.1 7 3 then s.2 23 x1 else -1) ∧ s' = s) ∧ gRg s')) := by
  refine gMet_of (plainFor_of_name (by decide)) hG (Nat.le_of_ble_eq_true rfl) (fun X hX hE => ?_)
  refine bk_X7_hour_0 hX hE s p0 x1  ?_
  exact ⟨p1, rng_of (by omega) (by omega), fun h => ⟨by omega, by rw [if_pos (by omega)], rfl⟩, fun h => ⟨by rw [if_neg (by omega)], rfl⟩⟩

