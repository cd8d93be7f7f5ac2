theorem inG_X0 : ∀ w ∈ u_ws RX0 TX0 13, w ∈ gAll := List.forall_mem_cons.mpr ⟨(gm_1 119 rfl rfl), List.forall_mem_cons.mpr ⟨(gm_1 121 rfl rfl), List.forall_mem_cons.mpr ⟨(gm_1 123 rfl rfl), List.forall_mem_cons.mpr ⟨(gm_1 125 rfl rfl), List.forall_mem_cons.mpr ⟨(gm_1 127 rfl rfl), List.forall_mem_cons.mpr ⟨(gm_1 129 rfl rfl), List.forall_mem_cons.mpr ⟨(gm_1 131 rfl rfl), List.forall_mem_cons.mpr ⟨(gm_1 133 rfl rfl), List.forall_mem_cons.mpr ⟨(gm_1 135 rfl rfl), List.forall_mem_cons.mpr ⟨(gm_1 137 rfl rfl), List.forall_mem_cons.mpr ⟨(gm_1 139 rfl rfl), List.forall_mem_cons.mpr ⟨(gm_1 141 rfl rfl), List.forall_mem_cons.mpr ⟨(gm_1 143 rfl rfl), fun _ h => absurd h List.not_mem_nil⟩⟩⟩⟩⟩⟩⟩⟩⟩⟩⟩⟩⟩
theorem inG_X1 : ∀ w ∈ u_ws RX1 TX1 5, w ∈ gAll := List.forall_mem_cons.mpr ⟨(gm_1 78 rfl rfl), List.forall_mem_cons.mpr ⟨(gm_1 80 rfl rfl), List.forall_mem_cons.mpr ⟨(gm_1 82 rfl rfl), List.forall_mem_cons.mpr ⟨(gm_1 84 rfl rfl), List.forall_mem_cons.mpr ⟨(gm_1 86 rfl rfl), fun _ h => absurd h List.not_mem_nil⟩⟩⟩⟩⟩
theorem inG_X2 : ∀ w ∈ u_ws RX2 TX2 3, w ∈ gAll := List.forall_mem_cons.mpr ⟨(gm_1 157 rfl rfl), List.forall_mem_cons.mpr ⟨(gm_1 159 rfl rfl), List.forall_mem_cons.mpr ⟨(gm_1 161 rfl rfl), fun _ h => absurd h List.not_mem_nil⟩⟩⟩
theorem inG_X3 : ∀ w ∈ u_ws RX3 TX3 3, w ∈ gAll := List.forall_mem_cons.mpr ⟨(gm_1 34 rfl rfl), List.forall_mem_cons.mpr ⟨(gm_1 36 rfl rfl), List.forall_mem_cons.mpr ⟨(gm_1 38 rfl rfl), fun _ h => absurd h List.not_mem_nil⟩⟩⟩
theorem inG_X4 : ∀ w ∈ u_ws RX4 TX4 3, w ∈ gAll := List.forall_mem_cons.mpr ⟨(gm_1 56 rfl rfl), List.forall_mem_cons.mpr ⟨(gm_1 58 rfl rfl), List.forall_mem_cons.mpr ⟨(gm_1 60 rfl rfl), fun _ h => absurd h List.not_mem_nil⟩⟩⟩
theorem inG_X5 : ∀ w ∈ u_ws RX5 TX5 5, w ∈ gAll := List.forall_mem_cons.mpr ⟨(gm_1 176 rfl rfl), List.forall_mem_cons.mpr ⟨(gm_1 178 rfl rfl), List.forall_mem_cons.mpr ⟨(gm_1 180 rfl rfl), List.forall_mem_cons.mpr ⟨(gm_1 182 rfl rfl), List.forall_mem_cons.mpr ⟨(gm_1 184 rfl rfl), fun _ h => absurd h List.not_mem_nil⟩⟩⟩⟩⟩
theorem inG_X6 : ∀ w ∈ u_ws RX6 TX6 8, w ∈ gAll := List.forall_mem_cons.mpr ⟨(gm_1 205 rfl rfl), List.forall_mem_cons.mpr ⟨(gm_1 207 rfl rfl), List.forall_mem_cons.mpr ⟨(gm_1 209 rfl rfl), List.forall_mem_cons.mpr ⟨(gm_1 211 rfl rfl), List.forall_mem_cons.mpr ⟨(gm_1 213 rfl rfl), List.forall_mem_cons.mpr ⟨(gm_1 215 rfl rfl), List.forall_mem_cons.mpr ⟨(gm_1 217 rfl rfl), List.forall_mem_cons.mpr ⟨(gm_1 219 rfl rfl), fun _ h => absurd h List.not_mem_nil⟩⟩⟩⟩⟩⟩⟩⟩
theorem inG_X7 : ∀ w ∈ u_ws RX7 TX7 8, w ∈ gAll := List.forall_mem_cons.mpr ⟨(gm_1 230 rfl rfl), List.forall_mem_cons.mpr ⟨(gm_1 232 rfl rfl), List.forall_mem_cons.mpr ⟨(gm_1 234 rfl rfl), List.forall_mem_cons.mpr ⟨(gm_1 236 rfl rfl), List.forall_mem_cons.mpr ⟨(gm_1 238 rfl rfl), List.forall_mem_cons.mpr ⟨(gm_2 0 rfl rfl), List.forall_mem_cons.mpr ⟨(gm_2 2 rfl rfl), List.forall_mem_cons.mpr ⟨(gm_2 4 rfl rfl), fun _ h => absurd h List.not_mem_nil⟩⟩⟩⟩⟩⟩⟩⟩
theorem inG_X8 : ∀ w ∈ u_ws RX8 TX8 34, w ∈ gAll := List.forall_mem_cons.mpr ⟨(gm_3 72 rfl rfl), List.forall_mem_cons.mpr ⟨(gm_3 74 rfl rfl), List.forall_mem_cons.mpr ⟨(gm_3 76 rfl rfl), List.forall_mem_cons.mpr ⟨(gm_3 78 rfl rfl), List.forall_mem_cons.mpr ⟨(gm_3 80 rfl rfl), List.forall_mem_cons.mpr ⟨(gm_3 82 rfl rfl), List.forall_mem_cons.mpr ⟨(gm_3 84 rfl rfl), List.forall_mem_cons.mpr ⟨(gm_3 86 rfl rfl), List.forall_mem_cons.mpr ⟨(gm_3 88 rfl rfl), List.forall_mem_cons.mpr ⟨(gm_3 90 rfl rfl), List.forall_mem_cons.mpr ⟨(gm_3 92 rfl rfl), List.forall_mem_cons.mpr ⟨(gm_3 94 rfl rfl), List.forall_mem_cons.mpr ⟨(gm_3 96 rfl rfl), List.forall_mem_cons.mpr ⟨(gm_3 98 rfl rfl), List.forall_mem_cons.mpr ⟨(gm_3 100 rfl rfl), List.forall_mem_cons.mpr ⟨(gm_3 102 rfl rfl), List.forall_mem_cons.mpr ⟨(gm_3 104 rfl rfl), List.forall_mem_cons.mpr ⟨(gm_3 106 rfl rfl), List.forall_mem_cons.mpr ⟨(gm_3 108 rfl rfl), List.forall_mem_cons.mpr ⟨(gm_3 110 rfl rfl), List.forall_mem_cons.mpr ⟨(gm_3 112 rfl rfl), List.forall_mem_cons.mpr ⟨(gm_3 114 rfl rfl), List.forall_mem_cons.mpr ⟨(gm_3 116 rfl rfl), List.forall_mem_cons.mpr ⟨(gm_3 118 rfl rfl), List.forall_mem_cons.mpr ⟨(gm_3 120 rfl rfl), List.forall_mem_cons.mpr ⟨(gm_3 122 rfl rfl), List.forall_mem_cons.mpr ⟨(gm_3 124 rfl rfl), List.forall_mem_cons.mpr ⟨(gm_3 126 rfl rfl), List.forall_mem_cons.mpr ⟨(gm_3 128 rfl rfl), List.forall_mem_cons.mpr ⟨(gm_3 130 rfl rfl), List.forall_mem_cons.mpr ⟨(gm_3 132 rfl rfl), List.forall_mem_cons.mpr ⟨(gm_3 134 rfl rfl), List.forall_mem_cons.mpr ⟨(gm_3 136 rfl rfl), List.forall_mem_cons.mpr ⟨(gm_3 138 rfl rfl), fun _ h => absurd h List.not_mem_nil⟩⟩⟩⟩⟩⟩⟩⟩⟩⟩⟩⟩⟩⟩⟩⟩⟩⟩⟩⟩⟩⟩⟩⟩⟩⟩⟩⟩⟩⟩⟩⟩⟩⟩
theorem cv_X7_62 : gCS RX7 62 yX7_isWithin cX7_isWithin 3 (some .boolean) 3 := ⟨(gm_2 11 rfl rfl), (gm_2 12 rfl rfl), (gm_1 1 rfl rfl), (gm_2 13 rfl rfl), ⟨by decide, by decide, by decide +kernel⟩, by decide⟩
theorem cv_X8_102 : gCS RX8 102 yX8_isIn cX8_isIn 3 (some .boolean) 3 := ⟨(gm_3 146 rfl rfl), (gm_3 147 rfl rfl), (gm_1 9 rfl rfl), (gm_3 148 rfl rfl), ⟨by decide, by decide, by decide +kernel⟩, by decide⟩
def gfar (a b : Int) : Int := if a < b then b - a else a - b
def gabs (a : Int) : Int := if 0 ≤ a then a else -a
set_option maxRecDepth 100000 in
set_option maxHeartbeats 4000000 in
theorem bk_X7_isWithin_0 {X : gX} {G : gG} (hX : gOk X G cX7_isWithin 3 RX7 (some .boolean) 1) {Q : Int → gS → Prop} (hE : gEnd X G (gPi (fun v s' => Q v s' ∧ gRg s'))) (s : gS) (hs : gRg s) (x0 : Int) (x1 : Int) (x2 : Int)  (h : (rng x0) ∧ (rng x1) ∧ ((x0 < x1 → Q 0 s) ∧ (x1 ≤ x0 → (rng x2) ∧ ((x2 < x0 → Q 0 s) ∧ (x0 ≤ x2 → Q 1 s))))) : gWL X G s 0 [(0, vi x0), (1, vi x1), (2, vi x2)] [] := by
  refine g_iload_n hX dX7_isWithin_0 0 rfl ?_
  refine g_iload_n hX dX7_isWithin_1 1 rfl ?_
  obtain ⟨h1, h⟩ := h
  obtain ⟨h2, h⟩ := h
  refine g_iclt (tgt := 14) hX h1 h2 dX7_isWithin_2 (by decide) (fun c3 => ?_) (fun c3 => ?_)
  · replace h := h.1 c3
    refine g_iconst hX dX7_isWithin_14 ?_
    exact g_zret hX hE (Or.inl rfl) dX7_isWithin_15 ⟨h, hs⟩
  · replace h := h.2 (Int.not_lt.mp c3)
    refine g_iload_n hX dX7_isWithin_5 0 rfl ?_
    refine g_iload_n hX dX7_isWithin_6 2 rfl ?_
    obtain ⟨h4, h⟩ := h
    refine g_icgt (tgt := 14) hX h1 h4 dX7_isWithin_7 (by decide) (fun c5 => ?_) (fun c5 => ?_)
    · replace h := h.1 c5
      refine g_iconst hX dX7_isWithin_14 ?_
      exact g_zret hX hE (Or.inl rfl) dX7_isWithin_15 ⟨h, hs⟩
    · replace h := h.2 (Int.not_lt.mp c5)
      refine g_iconst hX dX7_isWithin_10 ?_
      refine g_goto (tgt := 15) hX dX7_isWithin_11 (by decide) ?_
      exact g_zret hX hE (Or.inr rfl) dX7_isWithin_15 ⟨h, hs⟩
set_option maxRecDepth 100000 in
set_option maxHeartbeats 4000000 in
theorem c_X7_isWithin (l : Launch) {G : gG} (hG : gInj G) (s : gS) (x0 : Int) (x1 : Int) (x2 : Int) (p0 : gRg s) (p1 : rng x0) (p2 : rng x1) (p3 : rng x2) : gMet l G yX7_isWithin cX7_isWithin 3 (some .boolean) 1 [vi x0, vi x1, vi x2] s (gPi (fun v s' => (v = (gb (x1 ≤ x0 ∧ x0 ≤ x2)) ∧ s' = s) ∧ gRg s')) := by
  refine gMet_of (plainFor_of_name (by decide)) hG (Nat.le_of_ble_eq_true rfl) (fun X hX hE => ?_)
  refine bk_X7_isWithin_0 hX hE s p0 x0 x1 x2  ?_
  exact ⟨p1, p2, fun h => ⟨(gb_f (by omega)).symm, rfl⟩, fun h => ⟨p3, fun h' => ⟨(gb_f (by omega)).symm, rfl⟩, fun h' => ⟨(gb_t (by omega)).symm, rfl⟩⟩⟩
set_option maxRecDepth 100000 in
set_option maxHeartbeats 4000000 in
theorem bk_X7_isDay_0 {X : gX} {G : gG} (hX : gOk X G cX7_isDay 1 RX7 (some .boolean) 2) {Q : Int → gS → Prop} (hE : gEnd X G (gPi (fun v s' => Q v s' ∧ gRg s'))) (s : gS) (hs : gRg s) (x0 : Int)  (h : (rng x0) ∧ Q (gb (0 ≤ x0 ∧ x0 ≤ 1000)) s) : gWL X G s 0 [(0, vi x0)] [] := by
  refine g_iload_n hX dX7_isDay_0 0 rfl ?_
  refine g_iconst hX dX7_isDay_1 ?_
  refine g_sipush hX dX7_isDay_2 rfl ?_
  obtain ⟨h1, h⟩ := h
  refine g_cSf (As := [vi x0, vi 0, vi 1000]) hX (fun l => c_X7_isWithin l hX.inj s x0 0 1000 hs h1 (by unfold rng; omega) (by unfold rng; omega)) cv_X7_62 (by decide) rfl (Nat.le_of_ble_eq_true rfl) dX7_isDay_5 rfl (fun g2 => ?_)
  exact g_zret hX hE (gb_01 _) dX7_isDay_8 ⟨h, hs⟩
set_option maxRecDepth 100000 in
set_option maxHeartbeats 4000000 in
theorem c_X7_isDay (l : Launch) {G : gG} (hG : gInj G) (s : gS) (x0 : Int) (p0 : gRg s) (p1 : rng x0) : gMet l G yX7_isDay cX7_isDay 1 (some .boolean) 2 [vi x0] s (gPi (fun v s' => (v = (gb (0 ≤ x0 ∧ x0 ≤ 1000)) ∧ s' = s) ∧ gRg s')) := by
  refine gMet_of (plainFor_of_name (by decide)) hG (Nat.le_of_ble_eq_true rfl) (fun X hX hE => ?_)
  refine bk_X7_isDay_0 hX hE s p0 x0  ?_
  exact ⟨p1, rfl, rfl⟩
set_option maxRecDepth 100000 in
set_option maxHeartbeats 4000000 in
theorem bk_X8_isIn_0 {X : gX} {G : gG} (hX : gOk X G cX8_isIn 3 RX8 (some .boolean) 1) {Q : Int → gS → Prop} (hE : gEnd X G (gPi (fun v s' => Q v s' ∧ gRg s'))) (s : gS) (hs : gRg s) (x0 : Int) (x1 : Int) (x2 : Int)  (h : (rng x0) ∧ (rng x1) ∧ ((x0 < x1 → Q 0 s) ∧ (x1 ≤ x0 → (rng x2) ∧ ((x2 < x0 → Q 0 s) ∧ (x0 ≤ x2 → Q 1 s))))) : gWL X G s 0 [(0, vi x0), (1, vi x1), (2, vi x2)] [] := by
  refine g_iload_n hX dX8_isIn_0 0 rfl ?_
  refine g_iload_n hX dX8_isIn_1 1 rfl ?_
  obtain ⟨h1, h⟩ := h
  obtain ⟨h2, h⟩ := h
  refine g_iclt (tgt := 14) hX h1 h2 dX8_isIn_2 (by decide) (fun c3 => ?_) (fun c3 => ?_)
  · replace h := h.1 c3
    refine g_iconst hX dX8_isIn_14 ?_
    exact g_zret hX hE (Or.inl rfl) dX8_isIn_15 ⟨h, hs⟩
  · replace h := h.2 (Int.not_lt.mp c3)
    refine g_iload_n hX dX8_isIn_5 0 rfl ?_
    refine g_iload_n hX dX8_isIn_6 2 rfl ?_
    obtain ⟨h4, h⟩ := h
    refine g_icgt (tgt := 14) hX h1 h4 dX8_isIn_7 (by decide) (fun c5 => ?_) (fun c5 => ?_)
    · replace h := h.1 c5
      refine g_iconst hX dX8_isIn_14 ?_
      exact g_zret hX hE (Or.inl rfl) dX8_isIn_15 ⟨h, hs⟩
    · replace h := h.2 (Int.not_lt.mp c5)
      refine g_iconst hX dX8_isIn_10 ?_
      refine g_goto (tgt := 15) hX dX8_isIn_11 (by decide) ?_
      exact g_zret hX hE (Or.inr rfl) dX8_isIn_15 ⟨h, hs⟩
set_option maxRecDepth 100000 in
set_option maxHeartbeats 4000000 in
theorem c_X8_isIn (l : Launch) {G : gG} (hG : gInj G) (s : gS) (x0 : Int) (x1 : Int) (x2 : Int) (p0 : gRg s) (p1 : rng x0) (p2 : rng x1) (p3 : rng x2) : gMet l G yX8_isIn cX8_isIn 3 (some .boolean) 1 [vi x0, vi x1, vi x2] s (gPi (fun v s' => (v = (gb (x1 ≤ x0 ∧ x0 ≤ x2)) ∧ s' = s) ∧ gRg s')) := by
  refine gMet_of (plainFor_of_name (by decide)) hG (Nat.le_of_ble_eq_true rfl) (fun X hX hE => ?_)
  refine bk_X8_isIn_0 hX hE s p0 x0 x1 x2  ?_
  exact ⟨p1, p2, fun h => ⟨(gb_f (by omega)).symm, rfl⟩, fun h => ⟨p3, fun h' => ⟨(gb_f (by omega)).symm, rfl⟩, fun h' => ⟨(gb_t (by omega)).symm, rfl⟩⟩⟩
set_option maxRecDepth 100000 in
set_option maxHeartbeats 4000000 in
theorem bk_X8_isRecording_0 {X : gX} {G : gG} (hX : gOk X G cX8_isRecording 1 RX8 (some .boolean) 2) {Q : Int → gS → Prop} (hE : gEnd X G (gPi (fun v s' => Q v s' ∧ gRg s'))) (s : gS) (hs : gRg s) (x0 : Int)  (h : (rng x0) ∧ Q (gb (0 ≤ x0 ∧ x0 ≤ 9)) s) : gWL X G s 0 [(0, vi x0)] [] := by
  refine g_iload_n hX dX8_isRecording_0 0 rfl ?_
  refine g_iconst hX dX8_isRecording_1 ?_
  refine g_bipush hX dX8_isRecording_2 rfl ?_
  obtain ⟨h1, h⟩ := h
  refine g_cSf (As := [vi x0, vi 0, vi 9]) hX (fun l => c_X8_isIn l hX.inj s x0 0 9 hs h1 (by unfold rng; omega) (by unfold rng; omega)) cv_X8_102 (by decide) rfl (Nat.le_of_ble_eq_true rfl) dX8_isRecording_4 rfl (fun g2 => ?_)
  exact g_zret hX hE (gb_01 _) dX8_isRecording_7 ⟨h, hs⟩
set_option maxRecDepth 100000 in
set_option maxHeartbeats 4000000 in
theorem c_X8_isRecording (l : Launch) {G : gG} (hG : gInj G) (s : gS) (x0 : Int) (p0 : gRg s) (p1 : rng x0) : gMet l G yX8_isRecording cX8_isRecording 1 (some .boolean) 2 [vi x0] s (gPi (fun v s' => (v = (gb (0 ≤ x0 ∧ x0 ≤ 9)) ∧ s' = s) ∧ gRg s')) := by
  refine gMet_of (plainFor_of_name (by decide)) hG (Nat.le_of_ble_eq_true rfl) (fun X hX hE => ?_)
  refine bk_X8_isRecording_0 hX hE s p0 x0  ?_
  exact ⟨p1, rfl, rfl⟩
set_option maxRecDepth 100000 in
set_option maxHeartbeats 4000000 in
theorem bk_X8_far_0 {X : gX} {G : gG} (hX : gOk X G cX8_far 2 RX8 (some .int) 1) {Q : Int → gS → Prop} (hE : gEnd X G (gPi (fun v s' => Q v s' ∧ gRg s'))) (s : gS) (hs : gRg s) (x0 : Int) (x1 : Int)  (h : (rng x0) ∧ (rng x1) ∧ ((x1 ≤ x0 → Q (x0 - x1) s) ∧ (x0 < x1 → Q (x1 - x0) s))) : gWL X G s 0 [(0, vi x0), (1, vi x1)] [] := by
  refine g_iload_n hX dX8_far_0 0 rfl ?_
  refine g_iload_n hX dX8_far_1 1 rfl ?_
  obtain ⟨h1, h⟩ := h
  obtain ⟨h2, h⟩ := h
  refine g_icge (tgt := 11) hX h1 h2 dX8_far_2 (by decide) (fun c3 => ?_) (fun c3 => ?_)
  · replace h := h.1 c3
    refine g_iload_n hX dX8_far_11 0 rfl ?_
    refine g_iload_n hX dX8_far_12 1 rfl ?_
    refine g_isub hX dX8_far_13 ?_
    exact g_iret hX hE dX8_far_14 ⟨h, hs⟩
  · replace h := h.2 (Int.not_le.mp c3)
    refine g_iload_n hX dX8_far_5 1 rfl ?_
    refine g_iload_n hX dX8_far_6 0 rfl ?_
    refine g_isub hX dX8_far_7 ?_
    refine g_goto (tgt := 14) hX dX8_far_8 (by decide) ?_
    exact g_iret hX hE dX8_far_14 ⟨h, hs⟩
set_option maxRecDepth 100000 in
set_option maxHeartbeats 4000000 in
theorem c_X8_far (l : Launch) {G : gG} (hG : gInj G) (s : gS) (x0 : Int) (x1 : Int) (p0 : gRg s) (p1 : rng x0) (p2 : rng x1) : gMet l G yX8_far cX8_far 2 (some .int) 1 [vi x0, vi x1] s (gPi (fun v s' => (v = (gfar x0 x1) ∧ s' = s) ∧ gRg s')) := by
  refine gMet_of (plainFor_of_name (by decide)) hG (Nat.le_of_ble_eq_true rfl) (fun X hX hE => ?_)
  refine bk_X8_far_0 hX hE s p0 x0 x1  ?_
  exact ⟨p1, p2, fun h => ⟨(if_neg (by omega)).symm, rfl⟩, fun h => ⟨(if_pos (by omega)).symm, rfl⟩⟩
theorem pl_rows : (Jvm.natives.all fun r => r.cls != "java/lang/Math" || !(["(I)I", "(II)I"].contains r.desc)) = true := by decide +kernel
theorem pl_math {y : MethodName} (hc : y.cls = "java/lang/Math") (hd : ["(I)I", "(II)I"].contains y.desc = true) : plainFor y = true := by
  unfold plainFor
  rw [Bool.or_eq_true]
  right
  rw [Option.isNone_iff_eq_none, NativeRow.find?, List.find?_eq_none]
  intro r hr h
  have h9 := List.all_eq_true.mp pl_rows r hr
  simp only [Bool.and_eq_true, beq_iff_eq] at h
  rw [h.1.2, h.2, hc, hd] at h9
  simp at h9
theorem pl_J9_abs_0f7a4 : plainFor yJ9_abs_0f7a4 = true := pl_math rfl rfl
theorem pl_J9_max_7cf53 : plainFor yJ9_max_7cf53 = true := pl_math rfl rfl
theorem pl_J9_min_7cf53 : plainFor yJ9_min_7cf53 = true := pl_math rfl rfl
theorem pl_J9_floorDiv_7cf53 : plainFor yJ9_floorDiv_7cf53 = true := pl_math rfl rfl
set_option maxRecDepth 100000 in
set_option maxHeartbeats 4000000 in
theorem bk_J9_abs_0f7a4_0 {X : gX} {G : gG} (hX : gOk X G cJ9_abs_0f7a4 1 RJ9 (some .int) 1) {Q : Int → gS → Prop} (hE : gEnd X G (gPi (fun v s' => Q v s' ∧ gRg s'))) (s : gS) (hs : gRg s) (x0 : Int)  (h : (rng x0) ∧ ((0 ≤ x0 → Q x0 s) ∧ (x0 < 0 → Q (-x0) s))) : gWL X G s 0 [(0, vi x0)] [] := by
  refine g_iload_n hX dJ9_abs_0f7a4_0 0 rfl ?_
  obtain ⟨h1, h⟩ := h
  refine g_ifge (tgt := 9) hX h1 dJ9_abs_0f7a4_1 (by decide) (fun c2 => ?_) (fun c2 => ?_)
  · replace h := h.1 c2
    refine g_iload_n hX dJ9_abs_0f7a4_9 0 rfl ?_
    exact g_iret hX hE dJ9_abs_0f7a4_10 ⟨h, hs⟩
  · replace h := h.2 (Int.not_le.mp c2)
    refine g_iload_n hX dJ9_abs_0f7a4_4 0 rfl ?_
    refine g_ineg hX dJ9_abs_0f7a4_5 ?_
    refine g_goto (tgt := 10) hX dJ9_abs_0f7a4_6 (by decide) ?_
    exact g_iret hX hE dJ9_abs_0f7a4_10 ⟨h, hs⟩
set_option maxRecDepth 100000 in
set_option maxHeartbeats 4000000 in
theorem c_J9_abs_0f7a4 (l : Launch) {G : gG} (hG : gInj G) (s : gS) (x0 : Int) (p0 : gRg s) (p1 : rng x0) : gMet l G yJ9_abs_0f7a4 cJ9_abs_0f7a4 1 (some .int) 1 [vi x0] s (gPi (fun v s' => (v = (gabs x0) ∧ s' = s) ∧ gRg s')) := by
  refine gMet_of pl_J9_abs_0f7a4 hG (Nat.le_of_ble_eq_true rfl) (fun X hX hE => ?_)
  refine bk_J9_abs_0f7a4_0 hX hE s p0 x0  ?_
  exact ⟨p1, fun h => ⟨(if_pos h).symm, rfl⟩, fun h => ⟨(if_neg (by omega)).symm, rfl⟩⟩
set_option maxRecDepth 100000 in
set_option maxHeartbeats 4000000 in
theorem bk_J9_max_7cf53_0 {X : gX} {G : gG} (hX : gOk X G cJ9_max_7cf53 2 RJ9 (some .int) 1) {Q : Int → gS → Prop} (hE : gEnd X G (gPi (fun v s' => Q v s' ∧ gRg s'))) (s : gS) (hs : gRg s) (x0 : Int) (x1 : Int)  (h : (rng x0) ∧ (rng x1) ∧ ((x0 < x1 → Q x1 s) ∧ (x1 ≤ x0 → Q x0 s))) : gWL X G s 0 [(0, vi x0), (1, vi x1)] [] := by
  refine g_iload_n hX dJ9_max_7cf53_0 0 rfl ?_
  refine g_iload_n hX dJ9_max_7cf53_1 1 rfl ?_
  obtain ⟨h1, h⟩ := h
  obtain ⟨h2, h⟩ := h
  refine g_iclt (tgt := 9) hX h1 h2 dJ9_max_7cf53_2 (by decide) (fun c3 => ?_) (fun c3 => ?_)
  · replace h := h.1 c3
    refine g_iload_n hX dJ9_max_7cf53_9 1 rfl ?_
    exact g_iret hX hE dJ9_max_7cf53_10 ⟨h, hs⟩
  · replace h := h.2 (Int.not_lt.mp c3)
    refine g_iload_n hX dJ9_max_7cf53_5 0 rfl ?_
    refine g_goto (tgt := 10) hX dJ9_max_7cf53_6 (by decide) ?_
    exact g_iret hX hE dJ9_max_7cf53_10 ⟨h, hs⟩
set_option maxRecDepth 100000 in
set_option maxHeartbeats 4000000 in
theorem c_J9_max_7cf53 (l : Launch) {G : gG} (hG : gInj G) (s : gS) (x0 : Int) (x1 : Int) (p0 : gRg s) (p1 : rng x0) (p2 : rng x1) : gMet l G yJ9_max_7cf53 cJ9_max_7cf53 2 (some .int) 1 [vi x0, vi x1] s (gPi (fun v s' => (v = (max x0 x1) ∧ s' = s) ∧ gRg s')) := by
  refine gMet_of pl_J9_max_7cf53 hG (Nat.le_of_ble_eq_true rfl) (fun X hX hE => ?_)
  refine bk_J9_max_7cf53_0 hX hE s p0 x0 x1  ?_
  exact ⟨p1, p2, fun h => ⟨by omega, rfl⟩, fun h => ⟨by omega, rfl⟩⟩
set_option maxRecDepth 100000 in
set_option maxHeartbeats 4000000 in
theorem bk_J9_min_7cf53_0 {X : gX} {G : gG} (hX : gOk X G cJ9_min_7cf53 2 RJ9 (some .int) 1) {Q : Int → gS → Prop} (hE : gEnd X G (gPi (fun v s' => Q v s' ∧ gRg s'))) (s : gS) (hs : gRg s) (x0 : Int) (x1 : Int)  (h : (rng x0) ∧ (rng x1) ∧ ((x1 < x0 → Q x1 s) ∧ (x0 ≤ x1 → Q x0 s))) : gWL X G s 0 [(0, vi x0), (1, vi x1)] [] := by
  refine g_iload_n hX dJ9_min_7cf53_0 0 rfl ?_
  refine g_iload_n hX dJ9_min_7cf53_1 1 rfl ?_
  obtain ⟨h1, h⟩ := h
  obtain ⟨h2, h⟩ := h
  refine g_icgt (tgt := 9) hX h1 h2 dJ9_min_7cf53_2 (by decide) (fun c3 => ?_) (fun c3 => ?_)
  · replace h := h.1 c3
    refine g_iload_n hX dJ9_min_7cf53_9 1 rfl ?_
    exact g_iret hX hE dJ9_min_7cf53_10 ⟨h, hs⟩
  · replace h := h.2 (Int.not_lt.mp c3)
    refine g_iload_n hX dJ9_min_7cf53_5 0 rfl ?_
    refine g_goto (tgt := 10) hX dJ9_min_7cf53_6 (by decide) ?_
    exact g_iret hX hE dJ9_min_7cf53_10 ⟨h, hs⟩
set_option maxRecDepth 100000 in
set_option maxHeartbeats 4000000 in
theorem c_J9_min_7cf53 (l : Launch) {G : gG} (hG : gInj G) (s : gS) (x0 : Int) (x1 : Int) (p0 : gRg s) (p1 : rng x0) (p2 : rng x1) : gMet l G yJ9_min_7cf53 cJ9_min_7cf53 2 (some .int) 1 [vi x0, vi x1] s (gPi (fun v s' => (v = (min x0 x1) ∧ s' = s) ∧ gRg s')) := by
  refine gMet_of pl_J9_min_7cf53 hG (Nat.le_of_ble_eq_true rfl) (fun X hX hE => ?_)
  refine bk_J9_min_7cf53_0 hX hE s p0 x0 x1  ?_
  exact ⟨p1, p2, fun h => ⟨by omega, rfl⟩, fun h => ⟨by omega, rfl⟩⟩
set_option maxRecDepth 100000 in
set_option maxHeartbeats 4000000 in
theorem bk_J9_floorDiv_7cf53_0 {X : gX} {G : gG} (hX : gOk X G cJ9_floorDiv_7cf53 3 RJ9 (some .int) 1) {Q : Int → gS → Prop} (hE : gEnd X G (gPi (fun v s' => Q v s' ∧ gRg s'))) (s : gS) (hs : gRg s) (x0 : Int) (x1 : Int)  (h : (rng x0) ∧ (rng x1) ∧ (0 < x1) ∧ ((0 ≤ (gxor x0 x1) → Q (x0.tdiv x1) s) ∧ ((gxor x0 x1) < 0 → (rng ((x0.tdiv x1) * x1)) ∧ ((((x0.tdiv x1) * x1) = x0 → Q (x0.tdiv x1) s) ∧ (¬ (((x0.tdiv x1) * x1) = x0) → Q ((x0.tdiv x1) - 1) s))))) : gWL X G s 0 [(0, vi x0), (1, vi x1)] [] := by
  refine g_iload_n hX dJ9_floorDiv_7cf53_0 0 rfl ?_
  refine g_iload_n hX dJ9_floorDiv_7cf53_1 1 rfl ?_
  obtain ⟨h1, h⟩ := h
  obtain ⟨h2, h⟩ := h
  obtain ⟨h3, h⟩ := h
  refine g_idiv hX h1 h2 h3 dJ9_floorDiv_7cf53_2 ?_
  refine g_istore_n (loc' := [(2, vi (x0.tdiv x1)), (0, vi x0), (1, vi x1)]) hX dJ9_floorDiv_7cf53_3 (by decide) rfl ?_
  refine g_iload_n hX dJ9_floorDiv_7cf53_4 1 rfl ?_
  refine g_iload_n hX dJ9_floorDiv_7cf53_5 2 rfl ?_
  refine g_ixor hX dJ9_floorDiv_7cf53_6 ?_
  refine g_ifge (tgt := 21) hX (rng_i _) dJ9_floorDiv_7cf53_7 (by decide) (fun c4 => ?_) (fun c4 => ?_)
  · replace h := h.1 c4
    refine g_iload_n hX dJ9_floorDiv_7cf53_21 0 rfl ?_
    exact g_iret hX hE dJ9_floorDiv_7cf53_22 ⟨h, hs⟩
  · replace h := h.2 (Int.not_le.mp c4)
    refine g_iload_n hX dJ9_floorDiv_7cf53_10 0 rfl ?_
    refine g_iload_n hX dJ9_floorDiv_7cf53_11 2 rfl ?_
    refine g_imul hX dJ9_floorDiv_7cf53_12 ?_
    refine g_iload_n hX dJ9_floorDiv_7cf53_13 1 rfl ?_
    obtain ⟨h5, h⟩ := h
    refine g_iceq (tgt := 21) hX h5 h1 dJ9_floorDiv_7cf53_14 (by decide) (fun c6 => ?_) (fun c6 => ?_)
    · replace h := h.1 c6
      refine g_iload_n hX dJ9_floorDiv_7cf53_21 0 rfl ?_
      exact g_iret hX hE dJ9_floorDiv_7cf53_22 ⟨h, hs⟩
    · replace h := h.2 c6
      refine g_iload_n hX dJ9_floorDiv_7cf53_17 0 rfl ?_
      refine g_iconst hX dJ9_floorDiv_7cf53_18 ?_
      refine g_isub hX dJ9_floorDiv_7cf53_19 ?_
      exact g_iret hX hE dJ9_floorDiv_7cf53_20 ⟨h, hs⟩
theorem gb_1 {p : Prop} [Decidable p] : gb p = 1 ↔ p := by
  by_cases h : p <;> simp [gb, h]
theorem gxor_sign {a b : Int} (ha : rng a) (hb : rng b) : 0 ≤ gxor a b ↔ (a < 0 ↔ b < 0) := by
  have h : ∀ x : Int32, x.toBitVec.msb = decide (x.toInt < 0) := fun x => BitVec.msb_eq_toInt
  have h1 := h (Int32.ofInt a)
  have h2 := h (Int32.ofInt b)
  have h3 := h (Int32.ofInt a ^^^ Int32.ofInt b)
  rw [gI_toInt ha] at h1
  rw [gI_toInt hb] at h2
  rw [Int32.toBitVec_xor, BitVec.msb_xor, h1, h2] at h3
  unfold gxor
  by_cases u : a < 0 <;> by_cases v : b < 0 <;> simp [u, v] at h3 ⊢ <;> omega
set_option maxRecDepth 100000 in
set_option maxHeartbeats 4000000 in
theorem c_J9_floorDiv_7cf53 (l : Launch) {G : gG} (hG : gInj G) (s : gS) (x0 : Int) (x1 : Int) (p0 : gRg s) (p1 : rng x0) (p2 : rng x1) (p3 : 0 < x1) : gMet l G yJ9_floorDiv_7cf53 cJ9_floorDiv_7cf53 3 (some .int) 1 [vi x0, vi x1] s (gPi (fun v s' => (v = (x0 / x1) ∧ s' = s) ∧ gRg s')) := by
  refine gMet_of pl_J9_floorDiv_7cf53 hG (Nat.le_of_ble_eq_true rfl) (fun X hX hE => ?_)
  refine bk_J9_floorDiv_7cf53_0 hX hE s p0 x0 x1  ?_
  have hd := @Int.tdiv_eq_ediv x0 x1
  have hs : Int.sign x1 = 1 := Int.sign_eq_one_of_pos p3
  have hx := gxor_sign p1 p2
  refine ⟨p1, p2, p3, fun h => ⟨?_, rfl⟩, fun h => ?_⟩
  · rw [hd, if_pos (Or.inl (by omega))]
    omega
  · have hneg : x0 < 0 := by omega
    have hb := Int.tmod_def x0 x1
    have hr : -x1 < x0.tmod x1 := Int.lt_tmod_of_pos x0 p3
    have hr2 : x0.tmod x1 ≤ 0 := by
      have := Int.tmod_nonneg x1 (a := -x0) (by omega)
      rw [Int.neg_tmod] at this
      omega
    have hm : x0.tdiv x1 * x1 = x1 * x0.tdiv x1 := Int.mul_comm _ _
    have hg : rng (x0.tdiv x1 * x1) := by
      unfold rng at *
      omega
    refine ⟨hg, fun h' => ⟨?_, rfl⟩, fun h' => ⟨?_, rfl⟩⟩
    · rw [hd, if_pos (Or.inr ⟨x0.tdiv x1, by rw [← hm, h']⟩)]
      omega
    · rw [hd, if_neg, hs]
      · omega
      · rintro (h1 | h1)
        · omega
        · exact h' (by rw [hm]; exact Int.mul_tdiv_cancel' h1)

