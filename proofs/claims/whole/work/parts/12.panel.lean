theorem fl_X2_9 : gFL RX2 9 2 0 := ⟨RX2, TX2, 3, tyX2, rfl, by decide, inG_X2, (gm_1 153 rfl rfl), tyX2_ok, nmX2, fun _ => rfl⟩
theorem fl_X2_15 : gFL RX2 15 2 1 := ⟨RX2, TX2, 3, tyX2, rfl, by decide, inG_X2, (gm_1 155 rfl rfl), tyX2_ok, nmX2, fun h => absurd h (by decide)⟩
theorem fl_X2_21 : gFL RX2 21 2 2 := ⟨RX2, TX2, 3, tyX2, rfl, by decide, inG_X2, (gm_1 156 rfl rfl), tyX2_ok, nmX2, fun h => absurd h (by decide)⟩
theorem cv_X2_24 : gCS RX2 24 yX2_clubAt cX2_clubAt 3 (some .int) 2 := ⟨(gm_2 143 rfl rfl), (gm_2 144 rfl rfl), (gm_1 6 rfl rfl), (gm_2 145 rfl rfl), ⟨by decide, by decide, by decide +kernel⟩, by decide⟩
theorem cv_X2_28 : gCN RX2 28 yX7_isWithin "GleePrize" cX7_isWithin 3 (some .boolean) 3 := ⟨gn_2 166 rfl rfl, (gm_2 12 rfl rfl), (gm_1 1 rfl rfl), (gm_2 13 rfl rfl), ⟨by decide, by decide, by decide +kernel⟩, by decide⟩
theorem cv_X2_32 : gCV RX2 32 yX2_isCounting cX2_isCounting 2 (some .boolean) 1 2 := ⟨TX2, 3, rfl, (gm_2 154 rfl rfl), (gm_2 156 rfl rfl), (gm_s 9 rfl rfl), (gm_1 6 rfl rfl), (gm_2 157 rfl rfl), ⟨by decide, by decide, by decide +kernel⟩, by decide⟩
theorem cv_X2_36 : gCV RX2 36 yX2_findGreaterHalf cX2_findGreaterHalf 4 (some .int) 1 2 := ⟨TX2, 3, rfl, (gm_2 171 rfl rfl), (gm_2 173 rfl rfl), (gm_s 10 rfl rfl), (gm_1 6 rfl rfl), (gm_2 174 rfl rfl), ⟨by decide, by decide, by decide +kernel⟩, by decide⟩
theorem cv_X2_40 : gCV RX2 40 yX2_isSinging cX2_isSinging 2 (some .boolean) 1 2 := ⟨TX2, 3, rfl, (gm_2 180 rfl rfl), (gm_2 163 rfl rfl), (gm_2 164 rfl rfl), (gm_1 6 rfl rfl), (gm_2 165 rfl rfl), ⟨by decide, by decide, by decide +kernel⟩, by decide⟩
theorem cv_X2_43 : gCV RX2 43 yX2_isAhead cX2_isAhead 8 (some .boolean) 3 2 := ⟨TX2, 3, rfl, (gm_2 181 rfl rfl), (gm_2 183 rfl rfl), (gm_s 11 rfl rfl), (gm_1 6 rfl rfl), (gm_2 184 rfl rfl), ⟨by decide, by decide, by decide +kernel⟩, by decide⟩
theorem cv_X2_46 : gCV RX2 46 yX2_countJudges cX2_countJudges 3 (some .int) 0 2 := ⟨TX2, 3, rfl, (gm_2 175 rfl rfl), (gm_2 151 rfl rfl), (gm_2 152 rfl rfl), (gm_1 6 rfl rfl), (gm_2 153 rfl rfl), ⟨by decide, by decide, by decide +kernel⟩, by decide⟩
theorem cv_X2_50 : gCV RX2 50 yX2_countRanks cX2_countRanks 5 (some .int) 2 2 := ⟨TX2, 3, rfl, (gm_2 176 rfl rfl), (gm_2 177 rfl rfl), (gm_2 178 rfl rfl), (gm_1 6 rfl rfl), (gm_2 179 rfl rfl), ⟨by decide, by decide, by decide +kernel⟩, by decide⟩
theorem cv_X2_54 : gCV RX2 54 yX2_sumRanks cX2_sumRanks 5 (some .int) 2 2 := ⟨TX2, 3, rfl, (gm_2 185 rfl rfl), (gm_2 187 rfl rfl), (gm_s 12 rfl rfl), (gm_1 6 rfl rfl), (gm_2 188 rfl rfl), ⟨by decide, by decide, by decide +kernel⟩, by decide⟩
set_option maxRecDepth 100000 in
set_option maxHeartbeats 4000000 in
theorem bk_X2_clubAt_0 {X : gX} {G : gG} (hX : gOk X G cX2_clubAt 3 RX2 (some .int) 1) {Q : Int → gS → Prop} (hE : gEnd X G (gPi (fun v s' => Q v s' ∧ gRg s'))) (s : gS) (hs : gRg s) (y0 : Int64) (x2 : Int)  (h : Q (gand (gl2i (glushr y0 (4 * x2))) 15) s) : gWL X G s 0 [(0, .long y0), (2, vi x2)] [] := by
  refine g_lload_n hX dX2_clubAt_0 0 rfl ?_
  refine g_iconst hX dX2_clubAt_1 ?_
  refine g_iload_n hX dX2_clubAt_2 1 rfl ?_
  refine g_imul hX dX2_clubAt_3 ?_
  refine g_lushr hX dX2_clubAt_4 ?_
  refine g_l2i hX dX2_clubAt_5 ?_
  refine g_bipush hX dX2_clubAt_6 rfl ?_
  refine g_iand hX dX2_clubAt_8 ?_
  exact g_iret hX hE dX2_clubAt_9 ⟨h, hs⟩
set_option maxRecDepth 100000 in
set_option maxHeartbeats 4000000 in
theorem c_X2_clubAt (l : Launch) {G : gG} (hG : gInj G) (s : gS) (y0 : Int64) (x2 : Int) (p0 : gRg s) : gMet l G yX2_clubAt cX2_clubAt 3 (some .int) 1 [.long y0, vi x2] s (gPi (fun v s' => (v = (gclub y0 x2) ∧ s' = s) ∧ gRg s')) := by
  refine gMet_of (plainFor_of_name (by decide)) hG (Nat.le_of_ble_eq_true rfl) (fun X hX hE => ?_)
  refine bk_X2_clubAt_0 hX hE s p0 y0 x2  ?_
  exact ⟨rfl, rfl⟩
set_option maxRecDepth 100000 in
set_option maxHeartbeats 4000000 in
theorem bk_X2_takeRow_0 {X : gX} {G : gG} (hX : gOk X G cX2_takeRow 8 RX2 (some .boolean) 2) {Q : Int → gS → Prop} (hE : gEnd X G (gPi (fun v s' => Q v s' ∧ gRg s'))) (s : gS) (hs : gRg s) (x1 : Int) (x2 : Int) (y3 : Int64)  (h : gWL X G s 6 [(0, gR G 5), (1, vi x1), (2, vi x2), (3, .long y3), (5, vi 0), (6, vi 0)] []) : gWL X G s 0 [(0, gR G 5), (1, vi x1), (2, vi x2), (3, .long y3)] [] := by
  refine g_iconst hX dX2_takeRow_0 ?_
  refine g_istore (loc' := [(5, vi 0), (0, gR G 5), (1, vi x1), (2, vi x2), (3, .long y3)]) hX dX2_takeRow_1 (by decide) rfl ?_
  refine g_iconst hX dX2_takeRow_3 ?_
  refine g_istore (loc' := [(6, vi 0), (5, vi 0), (0, gR G 5), (1, vi x1), (2, vi x2), (3, .long y3)]) hX dX2_takeRow_4 (by decide) rfl ?_
  exact g_sub [2, 3, 4, 5, 1, 0] rfl h
set_option maxRecDepth 100000 in
set_option maxHeartbeats 4000000 in
theorem bk_X2_takeRow_6 {X : gX} {G : gG} (hX : gOk X G cX2_takeRow 8 RX2 (some .boolean) 2) {Q : Int → gS → Prop} (hE : gEnd X G (gPi (fun v s' => Q v s' ∧ gRg s'))) (s : gS) (hs : gRg s) (x1 : Int) (x2 : Int) (y3 : Int64) (x5 : Int) (x6 : Int)  (h : (rng x6) ∧ (rng x2) ∧ ((x2 ≤ x6 → (0 ≤ x1 ∧ x1 < 9) ∧ (rng x5) ∧ gWL X G (gpA s 17 x1 x5) 66 [(0, gR G 5), (1, vi x1), (2, vi x2), (3, .long y3), (6, vi 0)] []) ∧ (x6 < x2 → (rng (gclub y3 x6)) ∧ ((10 ≤ (gclub y3 x6) → Q 0 s) ∧ ((gclub y3 x6) < 10 → ((¬ (gand (gshr x5 (gclub y3 x6)) 1) = 1 → gWL X G s 6 [(0, gR G 5), (1, vi x1), (2, vi x2), (3, .long y3), (5, vi (gor x5 (gshl 1 (gclub y3 x6)))), (6, vi (x6 + 1))] []) ∧ ((gand (gshr x5 (gclub y3 x6)) 1) = 1 → Q 0 s))))))) : gWL X G s 6 [(0, gR G 5), (1, vi x1), (2, vi x2), (3, .long y3), (5, vi x5), (6, vi x6)] [] := by
  refine g_iload hX dX2_takeRow_6 5 rfl ?_
  refine g_iload_n hX dX2_takeRow_8 2 rfl ?_
  obtain ⟨h1, h⟩ := h
  obtain ⟨h2, h⟩ := h
  refine g_icge (tgt := 55) hX h1 h2 dX2_takeRow_9 (by decide) (fun c3 => ?_) (fun c3 => ?_)
  · replace h := h.1 c3
    refine g_aload_n hX dX2_takeRow_55 0 rfl ?_
    refine g_getR hX sh_5 1 rfl fl_X2_15 dX2_takeRow_56 ?_
    refine g_iload_n hX dX2_takeRow_59 1 rfl ?_
    refine g_iload hX dX2_takeRow_60 4 rfl ?_
    obtain ⟨h4, h⟩ := h
    obtain ⟨h5, h⟩ := h
    refine g_iast hX sh_17 h4 (by decide) dX2_takeRow_62 ?_
    refine g_iconst hX dX2_takeRow_63 ?_
    refine g_istore (loc' := [(6, vi 0), (0, gR G 5), (1, vi x1), (2, vi x2), (3, .long y3), (5, vi x5)]) hX dX2_takeRow_64 (by decide) rfl ?_
    exact g_sub [1, 2, 3, 4, 0] rfl h
  · replace h := h.2 (Int.not_le.mp c3)
    refine g_lload_n hX dX2_takeRow_12 3 rfl ?_
    refine g_iload hX dX2_takeRow_13 5 rfl ?_
    refine g_cSf (As := [.long y3, vi x6]) hX (fun l => c_X2_clubAt l hX.inj s y3 x6 hs) cv_X2_24 (by decide) rfl (Nat.le_of_ble_eq_true rfl) dX2_takeRow_15 rfl (fun g6 => ?_)
    refine g_istore (loc' := [(7, vi (gclub y3 x6)), (0, gR G 5), (1, vi x1), (2, vi x2), (3, .long y3), (5, vi x5), (6, vi x6)]) hX dX2_takeRow_18 (by decide) rfl ?_
    refine g_iload hX dX2_takeRow_20 0 rfl ?_
    refine g_bipush hX dX2_takeRow_22 rfl ?_
    obtain ⟨h7, h⟩ := h
    refine g_icge (tgt := 38) hX h7 (by unfold rng; omega) dX2_takeRow_24 (by decide) (fun c8 => ?_) (fun c8 => ?_)
    · replace h := h.1 c8
      refine g_iconst hX dX2_takeRow_38 ?_
      exact g_zret hX hE (Or.inl rfl) dX2_takeRow_39 ⟨h, hs⟩
    · replace h := h.2 (Int.not_le.mp c8)
      refine g_iload hX dX2_takeRow_27 5 rfl ?_
      refine g_iload hX dX2_takeRow_29 0 rfl ?_
      refine g_ishr hX dX2_takeRow_31 ?_
      refine g_iconst hX dX2_takeRow_32 ?_
      refine g_iand hX dX2_takeRow_33 ?_
      refine g_iconst hX dX2_takeRow_34 ?_
      refine g_icne (tgt := 40) hX (rng_i _) (by unfold rng; omega) dX2_takeRow_35 (by decide) (fun c9 => ?_) (fun c9 => ?_)
      · replace h := h.1 c9
        refine g_iload hX dX2_takeRow_40 5 rfl ?_
        refine g_iconst hX dX2_takeRow_42 ?_
        refine g_iload hX dX2_takeRow_43 0 rfl ?_
        refine g_ishl hX dX2_takeRow_45 ?_
        refine g_ior hX dX2_takeRow_46 ?_
        refine g_istore (loc' := [(5, vi (gor x5 (gshl 1 (gclub y3 x6)))), (7, vi (gclub y3 x6)), (0, gR G 5), (1, vi x1), (2, vi x2), (3, .long y3), (6, vi x6)]) hX dX2_takeRow_47 (by decide) rfl ?_
        refine g_iinc (loc' := [(6, vi (x6 + 1)), (5, vi (gor x5 (gshl 1 (gclub y3 x6)))), (7, vi (gclub y3 x6)), (0, gR G 5), (1, vi x1), (2, vi x2), (3, .long y3)]) hX dX2_takeRow_49 6 rfl (by decide) rfl ?_
        refine g_goto (tgt := 6) hX dX2_takeRow_52 (by decide) ?_
        exact g_sub [3, 4, 5, 6, 1, 0] rfl h
      · replace h := h.2 (gnn c9)
        refine g_iconst hX dX2_takeRow_38 ?_
        exact g_zret hX hE (Or.inl rfl) dX2_takeRow_39 ⟨h, hs⟩
set_option maxRecDepth 100000 in
set_option maxHeartbeats 4000000 in
theorem bk_X2_takeRow_66 {X : gX} {G : gG} (hX : gOk X G cX2_takeRow 8 RX2 (some .boolean) 2) {Q : Int → gS → Prop} (hE : gEnd X G (gPi (fun v s' => Q v s' ∧ gRg s'))) (s : gS) (hs : gRg s) (x1 : Int) (x2 : Int) (y3 : Int64) (x6 : Int)  (h : (rng x6) ∧ (rng x2) ∧ ((x2 ≤ x6 → Q 1 s) ∧ (x6 < x2 → (0 ≤ x1 ∧ x1 < 9) ∧ (0 ≤ (gclub y3 x6) ∧ (gclub y3 x6) < 10) ∧ (rng (x6 + 1)) ∧ gWL X G (gpA s (300 + x1) (gclub y3 x6) (x6 + 1)) 66 [(0, gR G 5), (1, vi x1), (2, vi x2), (3, .long y3), (6, vi (x6 + 1))] []))) : gWL X G s 66 [(0, gR G 5), (1, vi x1), (2, vi x2), (3, .long y3), (6, vi x6)] [] := by
  refine g_iload hX dX2_takeRow_66 4 rfl ?_
  refine g_iload_n hX dX2_takeRow_68 2 rfl ?_
  obtain ⟨h1, h⟩ := h
  obtain ⟨h2, h⟩ := h
  refine g_icge (tgt := 95) hX h1 h2 dX2_takeRow_69 (by decide) (fun c3 => ?_) (fun c3 => ?_)
  · replace h := h.1 c3
    refine g_iconst hX dX2_takeRow_95 ?_
    exact g_zret hX hE (Or.inr rfl) dX2_takeRow_96 ⟨h, hs⟩
  · replace h := h.2 (Int.not_le.mp c3)
    refine g_aload_n hX dX2_takeRow_72 0 rfl ?_
    refine g_getR hX sh_5 2 rfl fl_X2_21 dX2_takeRow_73 ?_
    refine g_iload_n hX dX2_takeRow_76 1 rfl ?_
    obtain ⟨h4, h⟩ := h
    have k5 := h4
    refine g_aald (kd := 4) (q := (300 + x1)) hX sh_18 rfl rfl h4 (by decide) (by show 300 + ((x1 : Int).toNat : Int) = _; omega) dX2_takeRow_77 ?_
    refine g_lload_n hX dX2_takeRow_78 3 rfl ?_
    refine g_iload hX dX2_takeRow_79 4 rfl ?_
    refine g_cSf (As := [.long y3, vi x6]) hX (fun l => c_X2_clubAt l hX.inj s y3 x6 hs) cv_X2_24 (by decide) rfl (Nat.le_of_ble_eq_true rfl) dX2_takeRow_81 rfl (fun g6 => ?_)
    refine g_iload hX dX2_takeRow_84 4 rfl ?_
    refine g_iconst hX dX2_takeRow_86 ?_
    refine g_iadd hX dX2_takeRow_87 ?_
    obtain ⟨h7, h⟩ := h
    obtain ⟨h8, h⟩ := h
    refine g_iast hX (sh_rankrow (by omega) (by omega)) h7 (by decide) dX2_takeRow_88 ?_
    refine g_iinc (loc' := [(6, vi (x6 + 1)), (0, gR G 5), (1, vi x1), (2, vi x2), (3, .long y3)]) hX dX2_takeRow_89 4 rfl (by decide) rfl ?_
    refine g_goto (tgt := 66) hX dX2_takeRow_92 (by decide) ?_
    exact g_sub [1, 2, 3, 4, 0] rfl h
set_option maxRecDepth 100000 in
set_option maxHeartbeats 4000000 in
theorem c_X2_takeRow (l : Launch) {G : gG} (hG : gInj G) (s : gS) (x1 : Int) (x2 : Int) (y3 : Int64) (p0 : gRg s) (p1 : rng x2) (p2 : 0 ≤ x1 ∧ x1 < 9) (p3 : 0 ≤ x2 ∧ x2 ≤ 10) : gMet l G yX2_takeRow cX2_takeRow 8 (some .boolean) 2 [gR G 5, vi x1, vi x2, .long y3] s (gPi (fun v s' => ((gvalid (gclub y3) x2 → v = 1 ∧ s' = granks (gpA s 17 x1 (gbitsOf (gclub y3) x2)) (300 + x1) (gclub y3) x2) ∧ (¬ gvalid (gclub y3) x2 → v = 0 ∧ s' = s)) ∧ gRg s')) := by
  refine gMet_of (plainFor_of_name (by decide)) hG (Nat.le_of_ble_eq_true rfl) (fun X hX hE => ?_)
  refine bk_X2_takeRow_0 hX hE s p0 x1 x2 y3  ?_
  have hf := gclub_bd y3
  refine gloop (α := Int) (hi := x2) (fun i b => 0 ≤ i ∧ b = gbitsOf (gclub y3) i ∧ gvalid (gclub y3) i) (fun i b => gWL X G s 6 [(0, gR G 5), (1, vi x1), (2, vi x2), (3, .long y3), (5, vi b), (6, vi i)] []) ?_ ?_ 0 0 p3.1 ⟨by omega, rfl, fun i h0 h1 => by omega⟩
  · intro i b hi ⟨h0, hb, hv⟩ next
    refine bk_X2_takeRow_6 hX hE s p0 x1 x2 y3 b i ⟨rng_of (by omega) (by omega), p1, fun h => by omega, fun _ => ⟨rng_of (by have := hf i; omega) (by have := hf i; omega), fun h => ?_, fun h => ⟨fun h2 => next _ ⟨by omega, ?_, ?_⟩, fun h2 => ?_⟩⟩⟩
    · exact ⟨fun z => by have := (z i h0 hi).1; omega, fun _ => ⟨rfl, rfl⟩⟩
    · unfold gbitsOf; rw [giter_s _ _ h0, hb]; rfl
    · intro i' h0' h1'
      by_cases e : i' = i
      · subst e
        exact ⟨h, by rw [← hb]; exact h2⟩
      · exact hv i' h0' (by omega)
    · exact ⟨fun z => absurd (by rw [← hb]; exact h2) (z i h0 hi).2, fun _ => ⟨rfl, rfl⟩⟩
  · intro b ⟨h0, hb, hv⟩
    refine bk_X2_takeRow_6 hX hE s p0 x1 x2 y3 b x2 ⟨p1, p1, fun _ => ⟨p2, by rw [hb]; exact gbitsOf_rng _ _, ?_⟩, fun h => by omega⟩
    subst hb
    refine gloop (α := gS) (hi := x2) (fun i t => 0 ≤ i ∧ t = granks (gpA s 17 x1 (gbitsOf (gclub y3) x2)) (300 + x1) (gclub y3) i) (fun i t => gWL X G t 66 [(0, gR G 5), (1, vi x1), (2, vi x2), (3, .long y3), (6, vi i)] []) ?_ ?_ 0 _ p3.1 ⟨by omega, rfl⟩
    · intro i t hi ⟨h0', ht⟩ next
      have hg : gRg t := by rw [ht]; exact granks_rg (gRg_A p0 (gbitsOf_rng _ _)) h0' (by omega)
      exact bk_X2_takeRow_66 hX hE t hg x1 x2 y3 i ⟨rng_of (by omega) (by omega), p1, fun h => by omega, fun _ => ⟨p2, ⟨(hf i).1, (hv i h0' hi).1⟩, rng_of (by omega) (by omega), next _ ⟨by omega, by unfold granks; rw [giter_s _ _ h0', ht]; rfl⟩⟩⟩
    · intro t ⟨h0', ht⟩
      have hg : gRg t := by rw [ht]; exact granks_rg (gRg_A p0 (gbitsOf_rng _ _)) h0' (by omega)
      exact bk_X2_takeRow_66 hX hE t hg x1 x2 y3 x2 ⟨p1, p1, fun _ => ⟨fun _ => ⟨rfl, ht⟩, fun z => absurd hv z⟩, fun h => by omega⟩
set_option maxRecDepth 100000 in
set_option maxHeartbeats 4000000 in
theorem bk_X2_isSinging_0 {X : gX} {G : gG} (hX : gOk X G cX2_isSinging 2 RX2 (some .boolean) 2) {Q : Int → gS → Prop} (hE : gEnd X G (gPi (fun v s' => Q v s' ∧ gRg s'))) (s : gS) (hs : gRg s) (x1 : Int)  (h : (rng x1) ∧ ((¬ (0 ≤ x1 ∧ x1 ≤ 9) → Q 0 s) ∧ (0 ≤ x1 ∧ x1 ≤ 9 → ((¬ (gand (gshr (s.1 5 0) x1) 1) = 1 → Q 0 s) ∧ ((gand (gshr (s.1 5 0) x1) 1) = 1 → Q 1 s))))) : gWL X G s 0 [(0, gR G 5), (1, vi x1)] [] := by
  refine g_iload_n hX dX2_isSinging_0 1 rfl ?_
  refine g_iconst hX dX2_isSinging_1 ?_
  refine g_bipush hX dX2_isSinging_2 rfl ?_
  obtain ⟨h1, h⟩ := h
  refine g_cSNf (As := [vi x1, vi 0, vi 9]) hX (fun l => c_X7_isWithin l hX.inj s x1 0 9 hs h1 (by unfold rng; omega) (by unfold rng; omega)) cv_X2_28 (by decide) rfl (Nat.le_of_ble_eq_true rfl) dX2_isSinging_4 rfl (fun g2 => ?_)
  refine g_ifeq (tgt := 26) hX (gb_rng _) dX2_isSinging_7 (by decide) (fun c3 => ?_) (fun c3 => ?_)
  · replace h := h.1 (gb_eq0.mp c3)
    refine g_iconst hX dX2_isSinging_26 ?_
    exact g_zret hX hE (Or.inl rfl) dX2_isSinging_27 ⟨h, hs⟩
  · replace h := h.2 (gb_n0.mp c3)
    refine g_aload_n hX dX2_isSinging_10 0 rfl ?_
    refine g_getI hX sh_5 0 rfl fl_X2_9 dX2_isSinging_11 ?_
    refine g_iload_n hX dX2_isSinging_14 1 rfl ?_
    refine g_ishr hX dX2_isSinging_15 ?_
    refine g_iconst hX dX2_isSinging_16 ?_
    refine g_iand hX dX2_isSinging_17 ?_
    refine g_iconst hX dX2_isSinging_18 ?_
    refine g_icne (tgt := 26) hX (rng_i _) (by unfold rng; omega) dX2_isSinging_19 (by decide) (fun c4 => ?_) (fun c4 => ?_)
    · replace h := h.1 c4
      refine g_iconst hX dX2_isSinging_26 ?_
      exact g_zret hX hE (Or.inl rfl) dX2_isSinging_27 ⟨h, hs⟩
    · replace h := h.2 (gnn c4)
      refine g_iconst hX dX2_isSinging_22 ?_
      refine g_goto (tgt := 27) hX dX2_isSinging_23 (by decide) ?_
      exact g_zret hX hE (Or.inr rfl) dX2_isSinging_27 ⟨h, hs⟩
set_option maxRecDepth 100000 in
set_option maxHeartbeats 4000000 in
theorem c_X2_isSinging (l : Launch) {G : gG} (hG : gInj G) (s : gS) (x1 : Int) (p0 : gRg s) (p1 : rng x1) : gMet l G yX2_isSinging cX2_isSinging 2 (some .boolean) 2 [gR G 5, vi x1] s (gPi (fun v s' => (v = (gb ((0 ≤ x1 ∧ x1 ≤ 9) ∧ gbit (s.1 5 0) x1 = 1)) ∧ s' = s) ∧ gRg s')) := by
  refine gMet_of (plainFor_of_name (by decide)) hG (Nat.le_of_ble_eq_true rfl) (fun X hX hE => ?_)
  refine bk_X2_isSinging_0 hX hE s p0 x1  ?_
  exact ⟨p1, fun h => ⟨(gb_f (fun z => h z.1)).symm, rfl⟩, fun h => ⟨fun h2 => ⟨(gb_f (fun z => h2 z.2)).symm, rfl⟩, fun h2 => ⟨(gb_t ⟨h, h2⟩).symm, rfl⟩⟩⟩
set_option maxRecDepth 100000 in
set_option maxHeartbeats 4000000 in
theorem bk_X2_isCounting_0 {X : gX} {G : gG} (hX : gOk X G cX2_isCounting 2 RX2 (some .boolean) 1) {Q : Int → gS → Prop} (hE : gEnd X G (gPi (fun v s' => Q v s' ∧ gRg s'))) (s : gS) (hs : gRg s) (x1 : Int)  (h : (((s.1 5 0) = 0 → Q 0 s) ∧ (¬ ((s.1 5 0) = 0) → (0 ≤ x1 ∧ x1 < 9) ∧ ((¬ (s.2 17 x1) = (s.1 5 0) → Q 0 s) ∧ ((s.2 17 x1) = (s.1 5 0) → Q 1 s))))) : gWL X G s 0 [(0, gR G 5), (1, vi x1)] [] := by
  refine g_aload_n hX dX2_isCounting_0 0 rfl ?_
  refine g_getI hX sh_5 0 rfl fl_X2_9 dX2_isCounting_1 ?_
  refine g_ifeq (tgt := 24) hX (hs.1 _ _) dX2_isCounting_4 (by decide) (fun c1 => ?_) (fun c1 => ?_)
  · replace h := h.1 c1
    refine g_iconst hX dX2_isCounting_24 ?_
    exact g_zret hX hE (Or.inl rfl) dX2_isCounting_25 ⟨h, hs⟩
  · replace h := h.2 c1
    refine g_aload_n hX dX2_isCounting_7 0 rfl ?_
    refine g_getR hX sh_5 1 rfl fl_X2_15 dX2_isCounting_8 ?_
    refine g_iload_n hX dX2_isCounting_11 1 rfl ?_
    obtain ⟨h2, h⟩ := h
    refine g_iald hX sh_17 h2 (by decide) dX2_isCounting_12 ?_
    refine g_aload_n hX dX2_isCounting_13 0 rfl ?_
    refine g_getI hX sh_5 0 rfl fl_X2_9 dX2_isCounting_14 ?_
    refine g_icne (tgt := 24) hX (hs.2 _ _) (hs.1 _ _) dX2_isCounting_17 (by decide) (fun c3 => ?_) (fun c3 => ?_)
    · replace h := h.1 c3
      refine g_iconst hX dX2_isCounting_24 ?_
      exact g_zret hX hE (Or.inl rfl) dX2_isCounting_25 ⟨h, hs⟩
    · replace h := h.2 (gnn c3)
      refine g_iconst hX dX2_isCounting_20 ?_
      refine g_goto (tgt := 25) hX dX2_isCounting_21 (by decide) ?_
      exact g_zret hX hE (Or.inr rfl) dX2_isCounting_25 ⟨h, hs⟩
set_option maxRecDepth 100000 in
set_option maxHeartbeats 4000000 in
theorem c_X2_isCounting (l : Launch) {G : gG} (hG : gInj G) (s : gS) (x1 : Int) (p0 : gRg s) (p1 : 0 ≤ x1 ∧ x1 < 9) : gMet l G yX2_isCounting cX2_isCounting 2 (some .boolean) 1 [gR G 5, vi x1] s (gPi (fun v s' => (v = (gb (¬ (s.1 5 0) = 0 ∧ (s.2 17 x1) = (s.1 5 0))) ∧ s' = s) ∧ gRg s')) := by
  refine gMet_of (plainFor_of_name (by decide)) hG (Nat.le_of_ble_eq_true rfl) (fun X hX hE => ?_)
  refine bk_X2_isCounting_0 hX hE s p0 x1  ?_
  exact ⟨fun h => ⟨(gb_f (fun z => z.1 h)).symm, rfl⟩, fun h => ⟨p1, fun h2 => ⟨(gb_f (fun z => h2 z.2)).symm, rfl⟩, fun h2 => ⟨(gb_t ⟨h, h2⟩).symm, rfl⟩⟩⟩
set_option maxRecDepth 100000 in
set_option maxHeartbeats 4000000 in
theorem bk_X2_countJudges_0 {X : gX} {G : gG} (hX : gOk X G cX2_countJudges 3 RX2 (some .int) 2) {Q : Int → gS → Prop} (hE : gEnd X G (gPi (fun v s' => Q v s' ∧ gRg s'))) (s : gS) (hs : gRg s)   (h : gWL X G s 4 [(0, gR G 5), (1, vi 0), (2, vi 0)] []) : gWL X G s 0 [(0, gR G 5)] [] := by
  refine g_iconst hX dX2_countJudges_0 ?_
  refine g_istore_n (loc' := [(1, vi 0), (0, gR G 5)]) hX dX2_countJudges_1 (by decide) rfl ?_
  refine g_iconst hX dX2_countJudges_2 ?_
  refine g_istore_n (loc' := [(2, vi 0), (1, vi 0), (0, gR G 5)]) hX dX2_countJudges_3 (by decide) rfl ?_
  exact g_sub [2, 1, 0] rfl h
set_option maxRecDepth 100000 in
set_option maxHeartbeats 4000000 in
theorem bk_X2_countJudges_4 {X : gX} {G : gG} (hX : gOk X G cX2_countJudges 3 RX2 (some .int) 2) {Q : Int → gS → Prop} (hE : gEnd X G (gPi (fun v s' => Q v s' ∧ gRg s'))) (s : gS) (hs : gRg s) (x1 : Int) (x2 : Int)  (h : (rng x2) ∧ ((9 ≤ x2 → Q x1 s) ∧ (x2 < 9 → (0 ≤ x2 ∧ x2 < 9) ∧ ((¬ (¬ (s.1 5 0) = 0 ∧ (s.2 17 x2) = (s.1 5 0)) → gWL X G s 4 [(0, gR G 5), (1, vi x1), (2, vi (x2 + 1))] []) ∧ (¬ (s.1 5 0) = 0 ∧ (s.2 17 x2) = (s.1 5 0) → gWL X G s 4 [(0, gR G 5), (1, vi (x1 + 1)), (2, vi (x2 + 1))] []))))) : gWL X G s 4 [(0, gR G 5), (1, vi x1), (2, vi x2)] [] := by
  refine g_iload_n hX dX2_countJudges_4 2 rfl ?_
  refine g_bipush hX dX2_countJudges_5 rfl ?_
  obtain ⟨h1, h⟩ := h
  refine g_icge (tgt := 27) hX h1 (by unfold rng; omega) dX2_countJudges_7 (by decide) (fun c2 => ?_) (fun c2 => ?_)
  · replace h := h.1 c2
    refine g_iload_n hX dX2_countJudges_27 1 rfl ?_
    exact g_iret hX hE dX2_countJudges_28 ⟨h, hs⟩
  · replace h := h.2 (Int.not_le.mp c2)
    refine g_aload_n hX dX2_countJudges_10 0 rfl ?_
    refine g_iload_n hX dX2_countJudges_11 2 rfl ?_
    obtain ⟨h3, h⟩ := h
    refine g_cVf (As := [vi x2]) hX (fun l => c_X2_isCounting l hX.inj s x2 hs h3) sh_5 cv_X2_32 (by decide) rfl (Nat.le_of_ble_eq_true rfl) dX2_countJudges_12 rfl (fun g4 => ?_)
    refine g_ifeq (tgt := 21) hX (gb_rng _) dX2_countJudges_15 (by decide) (fun c5 => ?_) (fun c5 => ?_)
    · replace h := h.1 (gb_eq0.mp c5)
      refine g_iinc (loc' := [(2, vi (x2 + 1)), (0, gR G 5), (1, vi x1)]) hX dX2_countJudges_21 2 rfl (by decide) rfl ?_
      refine g_goto (tgt := 4) hX dX2_countJudges_24 (by decide) ?_
      exact g_sub [1, 2, 0] rfl h
    · replace h := h.2 (gb_n0.mp c5)
      refine g_iinc (loc' := [(1, vi (x1 + 1)), (0, gR G 5), (2, vi x2)]) hX dX2_countJudges_18 1 rfl (by decide) rfl ?_
      refine g_iinc (loc' := [(2, vi (x2 + 1)), (1, vi (x1 + 1)), (0, gR G 5)]) hX dX2_countJudges_21 2 rfl (by decide) rfl ?_
      refine g_goto (tgt := 4) hX dX2_countJudges_24 (by decide) ?_
      exact g_sub [2, 1, 0] rfl h
set_option maxRecDepth 100000 in
set_option maxHeartbeats 4000000 in
theorem c_X2_countJudges (l : Launch) {G : gG} (hG : gInj G) (s : gS)  (p0 : gRg s) : gMet l G yX2_countJudges cX2_countJudges 3 (some .int) 2 [gR G 5] s (gPi (fun v s' => (v = (gjudges s) ∧ s' = s) ∧ gRg s')) := by
  refine gMet_of (plainFor_of_name (by decide)) hG (Nat.le_of_ble_eq_true rfl) (fun X hX hE => ?_)
  refine bk_X2_countJudges_0 hX hE s p0   ?_
  refine gloop (α := Int) (hi := 9) (fun i n => 0 ≤ i ∧ n = gsum (fun j => if chj s j = true then 1 else 0) i) (fun i n => gWL X G s 4 [(0, gR G 5), (1, vi n), (2, vi i)] []) ?_ ?_ 0 0 (by omega) ⟨by omega, rfl⟩
  · intro i n hi ⟨h0, hn⟩ next
    refine bk_X2_countJudges_4 hX hE s p0 n i ⟨rng_of (by omega) (by omega), fun h => by omega, fun _ => ⟨by omega, fun h => next _ ⟨by omega, ?_⟩, fun h => next _ ⟨by omega, ?_⟩⟩⟩
    · rw [gsum_s _ h0, hn, if_neg (by unfold chj; rw [decide_eq_true_iff]; exact h)]; omega
    · rw [gsum_s _ h0, hn, if_pos (by unfold chj; rw [decide_eq_true_iff]; exact h)]
  · intro n ⟨h0, hn⟩
    exact bk_X2_countJudges_4 hX hE s p0 n 9 ⟨rng_of (by omega) (by omega), fun _ => ⟨hn, rfl⟩, fun h => by omega⟩
set_option maxRecDepth 100000 in
set_option maxHeartbeats 4000000 in
theorem bk_X2_countRanks_0 {X : gX} {G : gG} (hX : gOk X G cX2_countRanks 5 RX2 (some .int) 2) {Q : Int → gS → Prop} (hE : gEnd X G (gPi (fun v s' => Q v s' ∧ gRg s'))) (s : gS) (hs : gRg s) (x1 : Int) (x2 : Int)  (h : gWL X G s 5 [(0, gR G 5), (1, vi x1), (2, vi x2), (3, vi 0), (4, vi 0)] []) : gWL X G s 0 [(0, gR G 5), (1, vi x1), (2, vi x2)] [] := by
  refine g_iconst hX dX2_countRanks_0 ?_
  refine g_istore_n (loc' := [(3, vi 0), (0, gR G 5), (1, vi x1), (2, vi x2)]) hX dX2_countRanks_1 (by decide) rfl ?_
  refine g_iconst hX dX2_countRanks_2 ?_
  refine g_istore (loc' := [(4, vi 0), (3, vi 0), (0, gR G 5), (1, vi x1), (2, vi x2)]) hX dX2_countRanks_3 (by decide) rfl ?_
  exact g_sub [2, 3, 4, 1, 0] rfl h
set_option maxRecDepth 100000 in
set_option maxHeartbeats 4000000 in
theorem bk_X2_countRanks_5 {X : gX} {G : gG} (hX : gOk X G cX2_countRanks 5 RX2 (some .int) 2) {Q : Int → gS → Prop} (hE : gEnd X G (gPi (fun v s' => Q v s' ∧ gRg s'))) (s : gS) (hs : gRg s) (x1 : Int) (x2 : Int) (x3 : Int) (x4 : Int)  (h : (rng x4) ∧ ((9 ≤ x4 → Q x3 s) ∧ (x4 < 9 → (0 ≤ x4 ∧ x4 < 9) ∧ ((¬ (¬ (s.1 5 0) = 0 ∧ (s.2 17 x4) = (s.1 5 0)) → gWL X G s 5 [(0, gR G 5), (1, vi x1), (2, vi x2), (3, vi x3), (4, vi (x4 + 1))] []) ∧ (¬ (s.1 5 0) = 0 ∧ (s.2 17 x4) = (s.1 5 0) → (0 ≤ x1 ∧ x1 < 10) ∧ (rng x2) ∧ ((x2 < (s.2 (300 + x4) x1) → gWL X G s 5 [(0, gR G 5), (1, vi x1), (2, vi x2), (3, vi x3), (4, vi (x4 + 1))] []) ∧ ((s.2 (300 + x4) x1) ≤ x2 → gWL X G s 5 [(0, gR G 5), (1, vi x1), (2, vi x2), (3, vi (x3 + 1)), (4, vi (x4 + 1))] []))))))) : gWL X G s 5 [(0, gR G 5), (1, vi x1), (2, vi x2), (3, vi x3), (4, vi x4)] [] := by
  refine g_iload hX dX2_countRanks_5 4 rfl ?_
  refine g_bipush hX dX2_countRanks_7 rfl ?_
  obtain ⟨h1, h⟩ := h
  refine g_icge (tgt := 43) hX h1 (by unfold rng; omega) dX2_countRanks_9 (by decide) (fun c2 => ?_) (fun c2 => ?_)
  · replace h := h.1 c2
    refine g_iload_n hX dX2_countRanks_43 3 rfl ?_
    exact g_iret hX hE dX2_countRanks_44 ⟨h, hs⟩
  · replace h := h.2 (Int.not_le.mp c2)
    refine g_aload_n hX dX2_countRanks_12 0 rfl ?_
    refine g_iload hX dX2_countRanks_13 4 rfl ?_
    obtain ⟨h3, h⟩ := h
    refine g_cVf (As := [vi x4]) hX (fun l => c_X2_isCounting l hX.inj s x4 hs h3) sh_5 cv_X2_32 (by decide) rfl (Nat.le_of_ble_eq_true rfl) dX2_countRanks_15 rfl (fun g4 => ?_)
    refine g_ifeq (tgt := 37) hX (gb_rng _) dX2_countRanks_18 (by decide) (fun c5 => ?_) (fun c5 => ?_)
    · replace h := h.1 (gb_eq0.mp c5)
      refine g_iinc (loc' := [(4, vi (x4 + 1)), (0, gR G 5), (1, vi x1), (2, vi x2), (3, vi x3)]) hX dX2_countRanks_37 4 rfl (by decide) rfl ?_
      refine g_goto (tgt := 5) hX dX2_countRanks_40 (by decide) ?_
      exact g_sub [1, 2, 3, 4, 0] rfl h
    · replace h := h.2 (gb_n0.mp c5)
      refine g_aload_n hX dX2_countRanks_21 0 rfl ?_
      refine g_getR hX sh_5 2 rfl fl_X2_21 dX2_countRanks_22 ?_
      refine g_iload hX dX2_countRanks_25 4 rfl ?_
      have k6 := h3
      refine g_aald (kd := 4) (q := (300 + x4)) hX sh_18 rfl rfl h3 (by decide) (by show 300 + ((x4 : Int).toNat : Int) = _; omega) dX2_countRanks_27 ?_
      refine g_iload_n hX dX2_countRanks_28 1 rfl ?_
      obtain ⟨h7, h⟩ := h
      refine g_iald hX (sh_rankrow (by omega) (by omega)) h7 (by decide) dX2_countRanks_29 ?_
      refine g_iload_n hX dX2_countRanks_30 2 rfl ?_
      obtain ⟨h8, h⟩ := h
      refine g_icgt (tgt := 37) hX (hs.2 _ _) h8 dX2_countRanks_31 (by decide) (fun c9 => ?_) (fun c9 => ?_)
      · replace h := h.1 c9
        refine g_iinc (loc' := [(4, vi (x4 + 1)), (0, gR G 5), (1, vi x1), (2, vi x2), (3, vi x3)]) hX dX2_countRanks_37 4 rfl (by decide) rfl ?_
        refine g_goto (tgt := 5) hX dX2_countRanks_40 (by decide) ?_
        exact g_sub [1, 2, 3, 4, 0] rfl h
      · replace h := h.2 (Int.not_lt.mp c9)
        refine g_iinc (loc' := [(3, vi (x3 + 1)), (0, gR G 5), (1, vi x1), (2, vi x2), (4, vi x4)]) hX dX2_countRanks_34 3 rfl (by decide) rfl ?_
        refine g_iinc (loc' := [(4, vi (x4 + 1)), (3, vi (x3 + 1)), (0, gR G 5), (1, vi x1), (2, vi x2)]) hX dX2_countRanks_37 4 rfl (by decide) rfl ?_
        refine g_goto (tgt := 5) hX dX2_countRanks_40 (by decide) ?_
        exact g_sub [2, 3, 4, 1, 0] rfl h
set_option maxRecDepth 100000 in
set_option maxHeartbeats 4000000 in
theorem c_X2_countRanks (l : Launch) {G : gG} (hG : gInj G) (s : gS) (x1 : Int) (x2 : Int) (p0 : gRg s) (p1 : rng x2) (p2 : 0 ≤ x1 ∧ x1 < 10) : gMet l G yX2_countRanks cX2_countRanks 5 (some .int) 2 [gR G 5, vi x1, vi x2] s (gPi (fun v s' => (v = (gcr s x1 x2) ∧ s' = s) ∧ gRg s')) := by
  refine gMet_of (plainFor_of_name (by decide)) hG (Nat.le_of_ble_eq_true rfl) (fun X hX hE => ?_)
  refine bk_X2_countRanks_0 hX hE s p0 x1 x2  ?_
  refine gloop (α := Int) (hi := 9) (fun i n => 0 ≤ i ∧ n = gsum (fun j => if chj s j = true ∧ crk s j x1 ≤ x2 then 1 else 0) i) (fun i n => gWL X G s 5 [(0, gR G 5), (1, vi x1), (2, vi x2), (3, vi n), (4, vi i)] []) ?_ ?_ 0 0 (by omega) ⟨by omega, rfl⟩
  · intro i n hi ⟨h0, hn⟩ next
    have hc : chj s i = true ↔ (¬ (s.1 5 0) = 0 ∧ (s.2 17 i) = (s.1 5 0)) := by unfold chj; rw [decide_eq_true_iff]
    refine bk_X2_countRanks_5 hX hE s p0 x1 x2 n i ⟨rng_of (by omega) (by omega), fun h => by omega, fun _ => ⟨by omega, fun h => next _ ⟨by omega, ?_⟩, fun h => ⟨p2, p1, fun h2 => next _ ⟨by omega, ?_⟩, fun h2 => next _ ⟨by omega, ?_⟩⟩⟩⟩
    · rw [gsum_s _ h0, hn, if_neg (fun z => h (hc.mp z.1))]; omega
    · rw [gsum_s _ h0, hn, if_neg (fun z => by have := z.2; unfold crk at this; omega)]; omega
    · rw [gsum_s _ h0, hn, if_pos ⟨hc.mpr h, h2⟩]
  · intro n ⟨h0, hn⟩
    exact bk_X2_countRanks_5 hX hE s p0 x1 x2 n 9 ⟨rng_of (by omega) (by omega), fun _ => ⟨hn, rfl⟩, fun h => by omega⟩
set_option maxRecDepth 100000 in
set_option maxHeartbeats 4000000 in
theorem bk_X2_sumRanks_0 {X : gX} {G : gG} (hX : gOk X G cX2_sumRanks 5 RX2 (some .int) 2) {Q : Int → gS → Prop} (hE : gEnd X G (gPi (fun v s' => Q v s' ∧ gRg s'))) (s : gS) (hs : gRg s) (x1 : Int) (x2 : Int)  (h : gWL X G s 5 [(0, gR G 5), (1, vi x1), (2, vi x2), (3, vi 0), (4, vi 0)] []) : gWL X G s 0 [(0, gR G 5), (1, vi x1), (2, vi x2)] [] := by
  refine g_iconst hX dX2_sumRanks_0 ?_
  refine g_istore_n (loc' := [(3, vi 0), (0, gR G 5), (1, vi x1), (2, vi x2)]) hX dX2_sumRanks_1 (by decide) rfl ?_
  refine g_iconst hX dX2_sumRanks_2 ?_
  refine g_istore (loc' := [(4, vi 0), (3, vi 0), (0, gR G 5), (1, vi x1), (2, vi x2)]) hX dX2_sumRanks_3 (by decide) rfl ?_
  exact g_sub [2, 3, 4, 1, 0] rfl h
set_option maxRecDepth 100000 in
set_option maxHeartbeats 4000000 in
theorem bk_X2_sumRanks_5 {X : gX} {G : gG} (hX : gOk X G cX2_sumRanks 5 RX2 (some .int) 2) {Q : Int → gS → Prop} (hE : gEnd X G (gPi (fun v s' => Q v s' ∧ gRg s'))) (s : gS) (hs : gRg s) (x1 : Int) (x2 : Int) (x3 : Int) (x4 : Int)  (h : (rng x4) ∧ ((9 ≤ x4 → Q x3 s) ∧ (x4 < 9 → (0 ≤ x4 ∧ x4 < 9) ∧ ((¬ (¬ (s.1 5 0) = 0 ∧ (s.2 17 x4) = (s.1 5 0)) → gWL X G s 5 [(0, gR G 5), (1, vi x1), (2, vi x2), (3, vi x3), (4, vi (x4 + 1))] []) ∧ (¬ (s.1 5 0) = 0 ∧ (s.2 17 x4) = (s.1 5 0) → (0 ≤ x1 ∧ x1 < 10) ∧ (rng x2) ∧ ((x2 < (s.2 (300 + x4) x1) → gWL X G s 5 [(0, gR G 5), (1, vi x1), (2, vi x2), (3, vi x3), (4, vi (x4 + 1))] []) ∧ ((s.2 (300 + x4) x1) ≤ x2 → gWL X G s 5 [(0, gR G 5), (1, vi x1), (2, vi x2), (3, vi (x3 + (s.2 (300 + x4) x1))), (4, vi (x4 + 1))] []))))))) : gWL X G s 5 [(0, gR G 5), (1, vi x1), (2, vi x2), (3, vi x3), (4, vi x4)] [] := by
  refine g_iload hX dX2_sumRanks_5 4 rfl ?_
  refine g_bipush hX dX2_sumRanks_7 rfl ?_
  obtain ⟨h1, h⟩ := h
  refine g_icge (tgt := 52) hX h1 (by unfold rng; omega) dX2_sumRanks_9 (by decide) (fun c2 => ?_) (fun c2 => ?_)
  · replace h := h.1 c2
    refine g_iload_n hX dX2_sumRanks_52 3 rfl ?_
    exact g_iret hX hE dX2_sumRanks_53 ⟨h, hs⟩
  · replace h := h.2 (Int.not_le.mp c2)
    refine g_aload_n hX dX2_sumRanks_12 0 rfl ?_
    refine g_iload hX dX2_sumRanks_13 4 rfl ?_
    obtain ⟨h3, h⟩ := h
    refine g_cVf (As := [vi x4]) hX (fun l => c_X2_isCounting l hX.inj s x4 hs h3) sh_5 cv_X2_32 (by decide) rfl (Nat.le_of_ble_eq_true rfl) dX2_sumRanks_15 rfl (fun g4 => ?_)
    refine g_ifeq (tgt := 46) hX (gb_rng _) dX2_sumRanks_18 (by decide) (fun c5 => ?_) (fun c5 => ?_)
    · replace h := h.1 (gb_eq0.mp c5)
      refine g_iinc (loc' := [(4, vi (x4 + 1)), (0, gR G 5), (1, vi x1), (2, vi x2), (3, vi x3)]) hX dX2_sumRanks_46 4 rfl (by decide) rfl ?_
      refine g_goto (tgt := 5) hX dX2_sumRanks_49 (by decide) ?_
      exact g_sub [1, 2, 3, 4, 0] rfl h
    · replace h := h.2 (gb_n0.mp c5)
      refine g_aload_n hX dX2_sumRanks_21 0 rfl ?_
      refine g_getR hX sh_5 2 rfl fl_X2_21 dX2_sumRanks_22 ?_
      refine g_iload hX dX2_sumRanks_25 4 rfl ?_
      have k6 := h3
      refine g_aald (kd := 4) (q := (300 + x4)) hX sh_18 rfl rfl h3 (by decide) (by show 300 + ((x4 : Int).toNat : Int) = _; omega) dX2_sumRanks_27 ?_
      refine g_iload_n hX dX2_sumRanks_28 1 rfl ?_
      obtain ⟨h7, h⟩ := h
      refine g_iald hX (sh_rankrow (by omega) (by omega)) h7 (by decide) dX2_sumRanks_29 ?_
      refine g_iload_n hX dX2_sumRanks_30 2 rfl ?_
      obtain ⟨h8, h⟩ := h
      refine g_icgt (tgt := 46) hX (hs.2 _ _) h8 dX2_sumRanks_31 (by decide) (fun c9 => ?_) (fun c9 => ?_)
      · replace h := h.1 c9
        refine g_iinc (loc' := [(4, vi (x4 + 1)), (0, gR G 5), (1, vi x1), (2, vi x2), (3, vi x3)]) hX dX2_sumRanks_46 4 rfl (by decide) rfl ?_
        refine g_goto (tgt := 5) hX dX2_sumRanks_49 (by decide) ?_
        exact g_sub [1, 2, 3, 4, 0] rfl h
      · replace h := h.2 (Int.not_lt.mp c9)
        refine g_iload_n hX dX2_sumRanks_34 3 rfl ?_
        refine g_aload_n hX dX2_sumRanks_35 0 rfl ?_
        refine g_getR hX sh_5 2 rfl fl_X2_21 dX2_sumRanks_36 ?_
        refine g_iload hX dX2_sumRanks_39 4 rfl ?_
        have k10 := h3
        refine g_aald (kd := 4) (q := (300 + x4)) hX sh_18 rfl rfl h3 (by decide) (by show 300 + ((x4 : Int).toNat : Int) = _; omega) dX2_sumRanks_41 ?_
        refine g_iload_n hX dX2_sumRanks_42 1 rfl ?_
        refine g_iald hX (sh_rankrow (by omega) (by omega)) h7 (by decide) dX2_sumRanks_43 ?_
        refine g_iadd hX dX2_sumRanks_44 ?_
        refine g_istore_n (loc' := [(3, vi (x3 + (s.2 (300 + x4) x1))), (0, gR G 5), (1, vi x1), (2, vi x2), (4, vi x4)]) hX dX2_sumRanks_45 (by decide) rfl ?_
        refine g_iinc (loc' := [(4, vi (x4 + 1)), (3, vi (x3 + (s.2 (300 + x4) x1))), (0, gR G 5), (1, vi x1), (2, vi x2)]) hX dX2_sumRanks_46 4 rfl (by decide) rfl ?_
        refine g_goto (tgt := 5) hX dX2_sumRanks_49 (by decide) ?_
        exact g_sub [2, 3, 4, 1, 0] rfl h
set_option maxRecDepth 100000 in
set_option maxHeartbeats 4000000 in
theorem c_X2_sumRanks (l : Launch) {G : gG} (hG : gInj G) (s : gS) (x1 : Int) (x2 : Int) (p0 : gRg s) (p1 : rng x2) (p2 : 0 ≤ x1 ∧ x1 < 10) : gMet l G yX2_sumRanks cX2_sumRanks 5 (some .int) 2 [gR G 5, vi x1, vi x2] s (gPi (fun v s' => (v = (gsr s x1 x2) ∧ s' = s) ∧ gRg s')) := by
  refine gMet_of (plainFor_of_name (by decide)) hG (Nat.le_of_ble_eq_true rfl) (fun X hX hE => ?_)
  refine bk_X2_sumRanks_0 hX hE s p0 x1 x2  ?_
  refine gloop (α := Int) (hi := 9) (fun i n => 0 ≤ i ∧ n = gsum (fun j => if chj s j = true ∧ crk s j x1 ≤ x2 then crk s j x1 else 0) i) (fun i n => gWL X G s 5 [(0, gR G 5), (1, vi x1), (2, vi x2), (3, vi n), (4, vi i)] []) ?_ ?_ 0 0 (by omega) ⟨by omega, rfl⟩
  · intro i n hi ⟨h0, hn⟩ next
    have hc : chj s i = true ↔ (¬ (s.1 5 0) = 0 ∧ (s.2 17 i) = (s.1 5 0)) := by unfold chj; rw [decide_eq_true_iff]
    refine bk_X2_sumRanks_5 hX hE s p0 x1 x2 n i ⟨rng_of (by omega) (by omega), fun h => by omega, fun _ => ⟨by omega, fun h => next _ ⟨by omega, ?_⟩, fun h => ⟨p2, p1, fun h2 => next _ ⟨by omega, ?_⟩, fun h2 => next _ ⟨by omega, ?_⟩⟩⟩⟩
    · rw [gsum_s _ h0, hn, if_neg (fun z => h (hc.mp z.1))]; omega
    · rw [gsum_s _ h0, hn, if_neg (fun z => by have := z.2; unfold crk at this; omega)]; omega
    · rw [gsum_s _ h0, hn, if_pos ⟨hc.mpr h, h2⟩]; rfl
  · intro n ⟨h0, hn⟩
    exact bk_X2_sumRanks_5 hX hE s p0 x1 x2 n 9 ⟨rng_of (by omega) (by omega), fun _ => ⟨hn, rfl⟩, fun h => by omega⟩
set_option maxRecDepth 100000 in
set_option maxHeartbeats 4000000 in
theorem bk_X2_findGreaterHalf_0 {X : gX} {G : gG} (hX : gOk X G cX2_findGreaterHalf 4 RX2 (some .int) 3) {Q : Int → gS → Prop} (hE : gEnd X G (gPi (fun v s' => Q v s' ∧ gRg s'))) (s : gS) (hs : gRg s) (x1 : Int)  (h : gWL X G s 7 [(0, gR G 5), (1, vi x1), (2, vi (gjudges s)), (3, vi 1)] []) : gWL X G s 0 [(0, gR G 5), (1, vi x1)] [] := by
  refine g_aload_n hX dX2_findGreaterHalf_0 0 rfl ?_
  refine g_cVf (As := []) hX (fun l => c_X2_countJudges l hX.inj s  hs) sh_5 cv_X2_46 (by decide) rfl (Nat.le_of_ble_eq_true rfl) dX2_findGreaterHalf_1 rfl (fun g1 => ?_)
  refine g_istore_n (loc' := [(2, vi (gjudges s)), (0, gR G 5), (1, vi x1)]) hX dX2_findGreaterHalf_4 (by decide) rfl ?_
  refine g_iconst hX dX2_findGreaterHalf_5 ?_
  refine g_istore_n (loc' := [(3, vi 1), (2, vi (gjudges s)), (0, gR G 5), (1, vi x1)]) hX dX2_findGreaterHalf_6 (by decide) rfl ?_
  exact g_sub [2, 3, 1, 0] rfl h
set_option maxRecDepth 100000 in
set_option maxHeartbeats 4000000 in
theorem bk_X2_findGreaterHalf_7 {X : gX} {G : gG} (hX : gOk X G cX2_findGreaterHalf 4 RX2 (some .int) 3) {Q : Int → gS → Prop} (hE : gEnd X G (gPi (fun v s' => Q v s' ∧ gRg s'))) (s : gS) (hs : gRg s) (x1 : Int) (x2 : Int) (x3 : Int)  (h : (rng x3) ∧ ((10 ≤ x3 → Q x3 s) ∧ (x3 < 10 → (0 ≤ x1 ∧ x1 < 10) ∧ (rng (2 * (gcr s x1 x3))) ∧ (rng x2) ∧ ((x2 < (2 * (gcr s x1 x3)) → Q x3 s) ∧ ((2 * (gcr s x1 x3)) ≤ x2 → gWL X G s 7 [(0, gR G 5), (1, vi x1), (2, vi x2), (3, vi (x3 + 1))] []))))) : gWL X G s 7 [(0, gR G 5), (1, vi x1), (2, vi x2), (3, vi x3)] [] := by
  refine g_iload_n hX dX2_findGreaterHalf_7 3 rfl ?_
  refine g_bipush hX dX2_findGreaterHalf_8 rfl ?_
  obtain ⟨h1, h⟩ := h
  refine g_icge (tgt := 31) hX h1 (by unfold rng; omega) dX2_findGreaterHalf_10 (by decide) (fun c2 => ?_) (fun c2 => ?_)
  · replace h := h.1 c2
    refine g_iload_n hX dX2_findGreaterHalf_31 3 rfl ?_
    exact g_iret hX hE dX2_findGreaterHalf_32 ⟨h, hs⟩
  · replace h := h.2 (Int.not_le.mp c2)
    refine g_iconst hX dX2_findGreaterHalf_13 ?_
    refine g_aload_n hX dX2_findGreaterHalf_14 0 rfl ?_
    refine g_iload_n hX dX2_findGreaterHalf_15 1 rfl ?_
    refine g_iload_n hX dX2_findGreaterHalf_16 3 rfl ?_
    obtain ⟨h3, h⟩ := h
    refine g_cVf (As := [vi x1, vi x3]) hX (fun l => c_X2_countRanks l hX.inj s x1 x3 hs h1 h3) sh_5 cv_X2_50 (by decide) rfl (Nat.le_of_ble_eq_true rfl) dX2_findGreaterHalf_17 rfl (fun g4 => ?_)
    refine g_imul hX dX2_findGreaterHalf_20 ?_
    refine g_iload_n hX dX2_findGreaterHalf_21 2 rfl ?_
    obtain ⟨h5, h⟩ := h
    obtain ⟨h6, h⟩ := h
    refine g_icgt (tgt := 31) hX h5 h6 dX2_findGreaterHalf_22 (by decide) (fun c7 => ?_) (fun c7 => ?_)
    · replace h := h.1 c7
      refine g_iload_n hX dX2_findGreaterHalf_31 3 rfl ?_
      exact g_iret hX hE dX2_findGreaterHalf_32 ⟨h, hs⟩
    · replace h := h.2 (Int.not_lt.mp c7)
      refine g_iinc (loc' := [(3, vi (x3 + 1)), (0, gR G 5), (1, vi x1), (2, vi x2)]) hX dX2_findGreaterHalf_25 3 rfl (by decide) rfl ?_
      refine g_goto (tgt := 7) hX dX2_findGreaterHalf_28 (by decide) ?_
      exact g_sub [1, 2, 3, 0] rfl h
set_option maxRecDepth 100000 in
set_option maxHeartbeats 4000000 in
theorem c_X2_findGreaterHalf (l : Launch) {G : gG} (hG : gInj G) (s : gS) (x1 : Int) (p0 : gRg s) (p1 : 0 ≤ x1 ∧ x1 < 10) : gMet l G yX2_findGreaterHalf cX2_findGreaterHalf 4 (some .int) 3 [gR G 5, vi x1] s (gPi (fun v s' => (v = (ghalf s x1) ∧ s' = s) ∧ gRg s')) := by
  refine gMet_of (plainFor_of_name (by decide)) hG (Nat.le_of_ble_eq_true rfl) (fun X hX hE => ?_)
  refine bk_X2_findGreaterHalf_0 hX hE s p0 x1  ?_
  have hJ := gJ_bd (chj s)
  refine gloop (α := Unit) (hi := 10) (fun i _ => 1 ≤ i ∧ gfst (fun k => decide (gJ (chj s) < 2 * gC (chj s) (crk s) x1 k)) i (10 - i).toNat = ghalf s x1) (fun i _ => gWL X G s 7 [(0, gR G 5), (1, vi x1), (2, vi (gjudges s)), (3, vi i)] []) ?_ ?_ 1 () (by omega) ⟨by omega, rfl⟩
  · intro i _ hi ⟨h0, hn⟩ next
    have hC := gC_bd (chj s) (crk s) x1 i
    have e : (10 - i).toNat = (10 - (i + 1)).toNat + 1 := by omega
    rw [e, gfst_s] at hn
    refine bk_X2_findGreaterHalf_7 hX hE s p0 x1 (gjudges s) i ⟨rng_of (by omega) (by omega), fun h => by omega, fun _ => ⟨p1, rng_of (by unfold gcr; omega) (by unfold gcr; omega), rng_of (by unfold gjudges; omega) (by unfold gjudges; omega), fun h => ⟨?_, rfl⟩, fun h => next () ⟨by omega, ?_⟩⟩⟩
    · unfold gjudges gcr at h
      rw [if_pos (decide_eq_true h)] at hn
      exact hn
    · unfold gjudges gcr at h
      rw [if_neg (by rw [decide_eq_true_iff]; exact Int.not_lt.mpr h)] at hn
      exact hn
  · intro _ ⟨h0, hn⟩
    exact bk_X2_findGreaterHalf_7 hX hE s p0 x1 (gjudges s) 10 ⟨rng_of (by omega) (by omega), fun _ => ⟨hn, rfl⟩, fun h => by omega⟩
set_option maxRecDepth 100000 in
set_option maxHeartbeats 4000000 in
theorem bk_X2_isAhead_0 {X : gX} {G : gG} (hX : gOk X G cX2_isAhead 8 RX2 (some .boolean) 4) {Q : Int → gS → Prop} (hE : gEnd X G (gPi (fun v s' => Q v s' ∧ gRg s'))) (s : gS) (hs : gRg s) (x1 : Int) (x2 : Int) (x3 : Int)  (h : (0 ≤ x1 ∧ x1 < 10) ∧ (rng (ghalf s x1)) ∧ (rng x3) ∧ (((ghalf s x1) = x3 → gWL X G s 28 [(0, gR G 5), (1, vi x1), (2, vi x2), (5, vi x3)] []) ∧ (¬ ((ghalf s x1) = x3) → ((x3 ≤ (ghalf s x1) → Q 0 s) ∧ ((ghalf s x1) < x3 → Q 1 s))))) : gWL X G s 0 [(0, gR G 5), (1, vi x1), (2, vi x2), (3, vi x3)] [] := by
  refine g_aload_n hX dX2_isAhead_0 0 rfl ?_
  refine g_iload_n hX dX2_isAhead_1 1 rfl ?_
  obtain ⟨h1, h⟩ := h
  refine g_cVf (As := [vi x1]) hX (fun l => c_X2_findGreaterHalf l hX.inj s x1 hs h1) sh_5 cv_X2_36 (by decide) rfl (Nat.le_of_ble_eq_true rfl) dX2_isAhead_2 rfl (fun g2 => ?_)
  refine g_istore (loc' := [(4, vi (ghalf s x1)), (0, gR G 5), (1, vi x1), (2, vi x2), (3, vi x3)]) hX dX2_isAhead_5 (by decide) rfl ?_
  refine g_iload hX dX2_isAhead_7 0 rfl ?_
  refine g_iload_n hX dX2_isAhead_9 4 rfl ?_
  obtain ⟨h3, h⟩ := h
  obtain ⟨h4, h⟩ := h
  refine g_iceq (tgt := 25) hX h3 h4 dX2_isAhead_10 (by decide) (fun c5 => ?_) (fun c5 => ?_)
  · replace h := h.1 c5
    refine g_iload_n hX dX2_isAhead_25 4 rfl ?_
    refine g_istore (loc' := [(5, vi x3), (4, vi (ghalf s x1)), (0, gR G 5), (1, vi x1), (2, vi x2), (3, vi x3)]) hX dX2_isAhead_26 (by decide) rfl ?_
    exact g_sub [2, 3, 4, 0] rfl h
  · replace h := h.2 c5
    refine g_iload hX dX2_isAhead_13 0 rfl ?_
    refine g_iload_n hX dX2_isAhead_15 4 rfl ?_
    refine g_icge (tgt := 23) hX h3 h4 dX2_isAhead_16 (by decide) (fun c6 => ?_) (fun c6 => ?_)
    · replace h := h.1 c6
      refine g_iconst hX dX2_isAhead_23 ?_
      exact g_zret hX hE (Or.inl rfl) dX2_isAhead_24 ⟨h, hs⟩
    · replace h := h.2 (Int.not_le.mp c6)
      refine g_iconst hX dX2_isAhead_19 ?_
      refine g_goto (tgt := 24) hX dX2_isAhead_20 (by decide) ?_
      exact g_zret hX hE (Or.inr rfl) dX2_isAhead_24 ⟨h, hs⟩
set_option maxRecDepth 100000 in
set_option maxHeartbeats 4000000 in
theorem bk_X2_isAhead_28 {X : gX} {G : gG} (hX : gOk X G cX2_isAhead 8 RX2 (some .boolean) 4) {Q : Int → gS → Prop} (hE : gEnd X G (gPi (fun v s' => Q v s' ∧ gRg s'))) (s : gS) (hs : gRg s) (x1 : Int) (x2 : Int) (x5 : Int)  (h : (rng x5) ∧ ((10 < x5 → Q 0 s) ∧ (x5 ≤ 10 → (0 ≤ x1 ∧ x1 < 10) ∧ (0 ≤ x2 ∧ x2 < 10) ∧ (rng ((gcr s x1 x5) - (gcr s x2 x5))) ∧ ((((gcr s x1 x5) - (gcr s x2 x5)) = 0 → (rng ((gsr s x2 x5) - (gsr s x1 x5))) ∧ ((((gsr s x2 x5) - (gsr s x1 x5)) = 0 → gWL X G s 28 [(0, gR G 5), (1, vi x1), (2, vi x2), (5, vi (x5 + 1))] []) ∧ (¬ (((gsr s x2 x5) - (gsr s x1 x5)) = 0) → ((((gsr s x2 x5) - (gsr s x1 x5)) ≤ 0 → Q 0 s) ∧ (0 < ((gsr s x2 x5) - (gsr s x1 x5)) → Q 1 s))))) ∧ (¬ (((gcr s x1 x5) - (gcr s x2 x5)) = 0) → ((((gcr s x1 x5) - (gcr s x2 x5)) ≤ 0 → Q 0 s) ∧ (0 < ((gcr s x1 x5) - (gcr s x2 x5)) → Q 1 s))))))) : gWL X G s 28 [(0, gR G 5), (1, vi x1), (2, vi x2), (5, vi x5)] [] := by
  refine g_iload hX dX2_isAhead_28 3 rfl ?_
  refine g_bipush hX dX2_isAhead_30 rfl ?_
  obtain ⟨h1, h⟩ := h
  refine g_icgt (tgt := 107) hX h1 (by unfold rng; omega) dX2_isAhead_32 (by decide) (fun c2 => ?_) (fun c2 => ?_)
  · replace h := h.1 c2
    refine g_iconst hX dX2_isAhead_107 ?_
    exact g_zret hX hE (Or.inl rfl) dX2_isAhead_108 ⟨h, hs⟩
  · replace h := h.2 (Int.not_lt.mp c2)
    refine g_aload_n hX dX2_isAhead_35 0 rfl ?_
    refine g_iload_n hX dX2_isAhead_36 1 rfl ?_
    refine g_iload hX dX2_isAhead_37 3 rfl ?_
    obtain ⟨h3, h⟩ := h
    refine g_cVf (As := [vi x1, vi x5]) hX (fun l => c_X2_countRanks l hX.inj s x1 x5 hs h1 h3) sh_5 cv_X2_50 (by decide) rfl (Nat.le_of_ble_eq_true rfl) dX2_isAhead_39 rfl (fun g4 => ?_)
    refine g_aload_n hX dX2_isAhead_42 0 rfl ?_
    refine g_iload_n hX dX2_isAhead_43 2 rfl ?_
    refine g_iload hX dX2_isAhead_44 3 rfl ?_
    obtain ⟨h5, h⟩ := h
    refine g_cVf (As := [vi x2, vi x5]) hX (fun l => c_X2_countRanks l hX.inj s x2 x5 hs h1 h5) sh_5 cv_X2_50 (by decide) rfl (Nat.le_of_ble_eq_true rfl) dX2_isAhead_46 rfl (fun g6 => ?_)
    refine g_isub hX dX2_isAhead_49 ?_
    refine g_istore (loc' := [(6, vi ((gcr s x1 x5) - (gcr s x2 x5))), (0, gR G 5), (1, vi x1), (2, vi x2), (5, vi x5)]) hX dX2_isAhead_50 (by decide) rfl ?_
    refine g_iload hX dX2_isAhead_52 0 rfl ?_
    obtain ⟨h7, h⟩ := h
    refine g_ifeq (tgt := 68) hX h7 dX2_isAhead_54 (by decide) (fun c8 => ?_) (fun c8 => ?_)
    · replace h := h.1 c8
      refine g_aload_n hX dX2_isAhead_68 1 rfl ?_
      refine g_iload_n hX dX2_isAhead_69 3 rfl ?_
      refine g_iload hX dX2_isAhead_70 4 rfl ?_
      refine g_cVf (As := [vi x2, vi x5]) hX (fun l => c_X2_sumRanks l hX.inj s x2 x5 hs h1 h5) sh_5 cv_X2_54 (by decide) rfl (Nat.le_of_ble_eq_true rfl) dX2_isAhead_72 rfl (fun g9 => ?_)
      refine g_aload_n hX dX2_isAhead_75 1 rfl ?_
      refine g_iload_n hX dX2_isAhead_76 2 rfl ?_
      refine g_iload hX dX2_isAhead_77 4 rfl ?_
      refine g_cVf (As := [vi x1, vi x5]) hX (fun l => c_X2_sumRanks l hX.inj s x1 x5 hs h1 h3) sh_5 cv_X2_54 (by decide) rfl (Nat.le_of_ble_eq_true rfl) dX2_isAhead_79 rfl (fun g10 => ?_)
      refine g_isub hX dX2_isAhead_82 ?_
      refine g_istore (loc' := [(7, vi ((gsr s x2 x5) - (gsr s x1 x5))), (6, vi ((gcr s x1 x5) - (gcr s x2 x5))), (0, gR G 5), (1, vi x1), (2, vi x2), (5, vi x5)]) hX dX2_isAhead_83 (by decide) rfl ?_
      refine g_iload hX dX2_isAhead_85 0 rfl ?_
      obtain ⟨h11, h⟩ := h
      refine g_ifeq (tgt := 101) hX h11 dX2_isAhead_87 (by decide) (fun c12 => ?_) (fun c12 => ?_)
      · replace h := h.1 c12
        refine g_iinc (loc' := [(5, vi (x5 + 1)), (7, vi ((gsr s x2 x5) - (gsr s x1 x5))), (6, vi ((gcr s x1 x5) - (gcr s x2 x5))), (0, gR G 5), (1, vi x1), (2, vi x2)]) hX dX2_isAhead_101 5 rfl (by decide) rfl ?_
        refine g_goto (tgt := 28) hX dX2_isAhead_104 (by decide) ?_
        exact g_sub [3, 4, 5, 0] rfl h
      · replace h := h.2 c12
        refine g_iload hX dX2_isAhead_90 0 rfl ?_
        refine g_ifle (tgt := 99) hX h11 dX2_isAhead_92 (by decide) (fun c13 => ?_) (fun c13 => ?_)
        · replace h := h.1 c13
          refine g_iconst hX dX2_isAhead_99 ?_
          exact g_zret hX hE (Or.inl rfl) dX2_isAhead_100 ⟨h, hs⟩
        · replace h := h.2 (Int.not_le.mp c13)
          refine g_iconst hX dX2_isAhead_95 ?_
          refine g_goto (tgt := 100) hX dX2_isAhead_96 (by decide) ?_
          exact g_zret hX hE (Or.inr rfl) dX2_isAhead_100 ⟨h, hs⟩
    · replace h := h.2 c8
      refine g_iload hX dX2_isAhead_57 0 rfl ?_
      refine g_ifle (tgt := 66) hX h7 dX2_isAhead_59 (by decide) (fun c14 => ?_) (fun c14 => ?_)
      · replace h := h.1 c14
        refine g_iconst hX dX2_isAhead_66 ?_
        exact g_zret hX hE (Or.inl rfl) dX2_isAhead_67 ⟨h, hs⟩
      · replace h := h.2 (Int.not_le.mp c14)
        refine g_iconst hX dX2_isAhead_62 ?_
        refine g_goto (tgt := 67) hX dX2_isAhead_63 (by decide) ?_
        exact g_zret hX hE (Or.inr rfl) dX2_isAhead_67 ⟨h, hs⟩
set_option maxRecDepth 100000 in
set_option maxHeartbeats 4000000 in
theorem c_X2_isAhead (l : Launch) {G : gG} (hG : gInj G) (s : gS) (x1 : Int) (x2 : Int) (x3 : Int) (p0 : gRg s) (p1 : gRk s) (p2 : 0 ≤ x1 ∧ x1 < 10) (p3 : 0 ≤ x2 ∧ x2 < 10) (p4 : 1 ≤ x3 ∧ x3 ≤ 10) : gMet l G yX2_isAhead cX2_isAhead 8 (some .boolean) 4 [gR G 5, vi x1, vi x2, vi x3] s (gPi (fun v s' => (v = (gahead s x1 x2 x3) ∧ s' = s) ∧ gRg s')) := by
  refine gMet_of (plainFor_of_name (by decide)) hG (Nat.le_of_ble_eq_true rfl) (fun X hX hE => ?_)
  refine bk_X2_isAhead_0 hX hE s p0 x1 x2 x3  ?_
  have hH := gH_bd (chj s) (crk s) x1
  refine ⟨p2, rng_of (by unfold ghalf; omega) (by unfold ghalf; omega), rng_of (by omega) (by omega), fun h => ?_, fun h => ⟨fun h2 => ⟨?_, rfl⟩, fun h2 => ⟨?_, rfl⟩⟩⟩
  · have he : gahead s x1 x2 x3 = gcmp (chj s) (crk s) x1 x2 x3 (11 - x3).toNat := if_pos h
    rw [he] at hE
    refine gloop (α := Unit) (hi := 11) (fun i _ => 1 ≤ i ∧ gcmp (chj s) (crk s) x1 x2 i (11 - i).toNat = gcmp (chj s) (crk s) x1 x2 x3 (11 - x3).toNat) (fun i _ => gWL X G s 28 [(0, gR G 5), (1, vi x1), (2, vi x2), (5, vi i)] []) ?_ ?_ x3 () (by omega) ⟨by omega, rfl⟩
    · intro i _ hi ⟨h0, hn⟩ next
      have hC1 := gC_bd (chj s) (crk s) x1 i
      have hC2 := gC_bd (chj s) (crk s) x2 i
      have hT1 := gT_bd (hj := chj s) (rk := crk s) (c := x1) (k := i) (fun j a b => p1 j x1 a b p2.1 p2.2)
      have hT2 := gT_bd (hj := chj s) (rk := crk s) (c := x2) (k := i) (fun j a b => p1 j x2 a b p3.1 p3.2)
      have e : (11 - i).toNat = (11 - (i + 1)).toNat + 1 := by omega
      rw [e, gcmp_s] at hn
      refine bk_X2_isAhead_28 hX hE s p0 x1 x2 i ⟨rng_of (by omega) (by omega), fun h => by omega, fun _ => ⟨p2, p3, rng_of (by unfold gcr; omega) (by unfold gcr; omega), fun h => ⟨rng_of (by unfold gsr; omega) (by unfold gsr; omega), fun h2 => next () ⟨by omega, ?_⟩, fun h2 => ⟨fun h3 => ⟨?_, rfl⟩, fun h3 => ⟨?_, rfl⟩⟩⟩, fun h => ⟨fun h3 => ⟨?_, rfl⟩, fun h3 => ⟨?_, rfl⟩⟩⟩⟩
      · unfold gcr at h; unfold gsr at h2
        rw [if_pos h, if_pos h2] at hn; exact hn
      · unfold gcr at h; unfold gsr at h2 h3
        rw [if_pos h, if_neg h2, gb_f (by omega)] at hn; exact hn
      · unfold gcr at h; unfold gsr at h2 h3
        rw [if_pos h, if_neg h2, gb_t (by omega)] at hn; exact hn
      · unfold gcr at h h3
        rw [if_neg h, gb_f (by omega)] at hn; exact hn
      · unfold gcr at h h3
        rw [if_neg h, gb_t (by omega)] at hn; exact hn
    · intro _ ⟨h0, hn⟩
      exact bk_X2_isAhead_28 hX hE s p0 x1 x2 11 ⟨rng_of (by omega) (by omega), fun _ => ⟨hn, rfl⟩, fun h => by omega⟩
  · have he : gahead s x1 x2 x3 = gb (gH (chj s) (crk s) x1 < x3) := if_neg h
    rw [he, gb_f (by unfold ghalf at h2; omega)]
  · have he : gahead s x1 x2 x3 = gb (gH (chj s) (crk s) x1 < x3) := if_neg h
    rw [he]; exact (gb_t h2).symm
set_option maxRecDepth 100000 in
set_option maxHeartbeats 4000000 in
theorem bk_X2_findPlace_0 {X : gX} {G : gG} (hX : gOk X G cX2_findPlace 5 RX2 (some .int) 5) {Q : Int → gS → Prop} (hE : gEnd X G (gPi (fun v s' => Q v s' ∧ gRg s'))) (s : gS) (hs : gRg s) (x1 : Int)  (h : (0 ≤ x1 ∧ x1 < 10) ∧ gWL X G s 11 [(0, gR G 5), (1, vi x1), (2, vi (ghalf s x1)), (3, vi 0), (4, vi 0)] []) : gWL X G s 0 [(0, gR G 5), (1, vi x1)] [] := by
  refine g_aload_n hX dX2_findPlace_0 0 rfl ?_
  refine g_iload_n hX dX2_findPlace_1 1 rfl ?_
  obtain ⟨h1, h⟩ := h
  refine g_cVf (As := [vi x1]) hX (fun l => c_X2_findGreaterHalf l hX.inj s x1 hs h1) sh_5 cv_X2_36 (by decide) rfl (Nat.le_of_ble_eq_true rfl) dX2_findPlace_2 rfl (fun g2 => ?_)
  refine g_istore_n (loc' := [(2, vi (ghalf s x1)), (0, gR G 5), (1, vi x1)]) hX dX2_findPlace_5 (by decide) rfl ?_
  refine g_iconst hX dX2_findPlace_6 ?_
  refine g_istore_n (loc' := [(3, vi 0), (2, vi (ghalf s x1)), (0, gR G 5), (1, vi x1)]) hX dX2_findPlace_7 (by decide) rfl ?_
  refine g_iconst hX dX2_findPlace_8 ?_
  refine g_istore (loc' := [(4, vi 0), (3, vi 0), (2, vi (ghalf s x1)), (0, gR G 5), (1, vi x1)]) hX dX2_findPlace_9 (by decide) rfl ?_
  exact g_sub [3, 4, 2, 1, 0] rfl h
set_option maxRecDepth 100000 in
set_option maxHeartbeats 4000000 in
theorem bk_X2_findPlace_11 {X : gX} {G : gG} (hX : gOk X G cX2_findPlace 5 RX2 (some .int) 5) {Q : Int → gS → Prop} (hE : gEnd X G (gPi (fun v s' => Q v s' ∧ gRg s'))) (s : gS) (hs : gRg s) (x1 : Int) (x2 : Int) (x3 : Int) (x4 : Int)  (h : (rng x4) ∧ ((10 ≤ x4 → Q (x3 + 1) s) ∧ (x4 < 10 → ((¬ ((0 ≤ x4 ∧ x4 ≤ 9) ∧ gbit (s.1 5 0) x4 = 1) → gWL X G s 11 [(0, gR G 5), (1, vi x1), (2, vi x2), (3, vi x3), (4, vi (x4 + 1))] []) ∧ ((0 ≤ x4 ∧ x4 ≤ 9) ∧ gbit (s.1 5 0) x4 = 1 → (gRk s) ∧ (0 ≤ x4 ∧ x4 < 10) ∧ (0 ≤ x1 ∧ x1 < 10) ∧ (1 ≤ x2 ∧ x2 ≤ 10) ∧ (rng (gahead s x4 x1 x2)) ∧ (((gahead s x4 x1 x2) = 0 → gWL X G s 11 [(0, gR G 5), (1, vi x1), (2, vi x2), (3, vi x3), (4, vi (x4 + 1))] []) ∧ (¬ ((gahead s x4 x1 x2) = 0) → gWL X G s 11 [(0, gR G 5), (1, vi x1), (2, vi x2), (3, vi (x3 + 1)), (4, vi (x4 + 1))] []))))))) : gWL X G s 11 [(0, gR G 5), (1, vi x1), (2, vi x2), (3, vi x3), (4, vi x4)] [] := by
  refine g_iload hX dX2_findPlace_11 4 rfl ?_
  refine g_bipush hX dX2_findPlace_13 rfl ?_
  obtain ⟨h1, h⟩ := h
  refine g_icge (tgt := 47) hX h1 (by unfold rng; omega) dX2_findPlace_15 (by decide) (fun c2 => ?_) (fun c2 => ?_)
  · replace h := h.1 c2
    refine g_iload_n hX dX2_findPlace_47 3 rfl ?_
    refine g_iconst hX dX2_findPlace_48 ?_
    refine g_iadd hX dX2_findPlace_49 ?_
    exact g_iret hX hE dX2_findPlace_50 ⟨h, hs⟩
  · replace h := h.2 (Int.not_le.mp c2)
    refine g_aload_n hX dX2_findPlace_18 0 rfl ?_
    refine g_iload hX dX2_findPlace_19 4 rfl ?_
    refine g_cVf (As := [vi x4]) hX (fun l => c_X2_isSinging l hX.inj s x4 hs h1) sh_5 cv_X2_40 (by decide) rfl (Nat.le_of_ble_eq_true rfl) dX2_findPlace_21 rfl (fun g3 => ?_)
    refine g_ifeq (tgt := 41) hX (gb_rng _) dX2_findPlace_24 (by decide) (fun c4 => ?_) (fun c4 => ?_)
    · replace h := h.1 (gb_eq0.mp c4)
      refine g_iinc (loc' := [(4, vi (x4 + 1)), (0, gR G 5), (1, vi x1), (2, vi x2), (3, vi x3)]) hX dX2_findPlace_41 4 rfl (by decide) rfl ?_
      refine g_goto (tgt := 11) hX dX2_findPlace_44 (by decide) ?_
      exact g_sub [1, 2, 3, 4, 0] rfl h
    · replace h := h.2 (gb_n0.mp c4)
      refine g_aload_n hX dX2_findPlace_27 0 rfl ?_
      refine g_iload hX dX2_findPlace_28 4 rfl ?_
      refine g_iload_n hX dX2_findPlace_30 1 rfl ?_
      refine g_iload_n hX dX2_findPlace_31 2 rfl ?_
      obtain ⟨h5, h⟩ := h
      obtain ⟨h6, h⟩ := h
      obtain ⟨h7, h⟩ := h
      obtain ⟨h8, h⟩ := h
      refine g_cVf (As := [vi x4, vi x1, vi x2]) hX (fun l => c_X2_isAhead l hX.inj s x4 x1 x2 hs h5 h6 h7 h8) sh_5 cv_X2_43 (by decide) rfl (Nat.le_of_ble_eq_true rfl) dX2_findPlace_32 rfl (fun g9 => ?_)
      obtain ⟨h10, h⟩ := h
      refine g_ifeq (tgt := 41) hX h10 dX2_findPlace_35 (by decide) (fun c11 => ?_) (fun c11 => ?_)
      · replace h := h.1 c11
        refine g_iinc (loc' := [(4, vi (x4 + 1)), (0, gR G 5), (1, vi x1), (2, vi x2), (3, vi x3)]) hX dX2_findPlace_41 4 rfl (by decide) rfl ?_
        refine g_goto (tgt := 11) hX dX2_findPlace_44 (by decide) ?_
        exact g_sub [1, 2, 3, 4, 0] rfl h
      · replace h := h.2 c11
        refine g_iinc (loc' := [(3, vi (x3 + 1)), (0, gR G 5), (1, vi x1), (2, vi x2), (4, vi x4)]) hX dX2_findPlace_38 3 rfl (by decide) rfl ?_
        refine g_iinc (loc' := [(4, vi (x4 + 1)), (3, vi (x3 + 1)), (0, gR G 5), (1, vi x1), (2, vi x2)]) hX dX2_findPlace_41 4 rfl (by decide) rfl ?_
        refine g_goto (tgt := 11) hX dX2_findPlace_44 (by decide) ?_
        exact g_sub [2, 3, 4, 1, 0] rfl h
set_option maxRecDepth 100000 in
set_option maxHeartbeats 4000000 in
theorem c_X2_findPlace (l : Launch) {G : gG} (hG : gInj G) (s : gS) (x1 : Int) (p0 : gRg s) (p1 : gRk s) (p2 : 0 ≤ x1 ∧ x1 < 10) : gMet l G yX2_findPlace cX2_findPlace 5 (some .int) 5 [gR G 5, vi x1] s (gPi (fun v s' => (v = (gplace s x1) ∧ s' = s) ∧ gRg s')) := by
  refine gMet_of (plainFor_of_name (by decide)) hG (Nat.le_of_ble_eq_true rfl) (fun X hX hE => ?_)
  refine bk_X2_findPlace_0 hX hE s p0 x1  ?_
  have hH := gH_bd (chj s) (crk s) x1
  refine ⟨p2, ?_⟩
  refine gloop (α := Int) (hi := 10) (fun i n => 0 ≤ i ∧ n = gsum (fun o => if ((0 ≤ o ∧ o ≤ 9) ∧ gbit (s.1 5 0) o = 1) ∧ gAhead (chj s) (crk s) o x1 (gH (chj s) (crk s) x1) = 1 then 1 else 0) i) (fun i n => gWL X G s 11 [(0, gR G 5), (1, vi x1), (2, vi (ghalf s x1)), (3, vi n), (4, vi i)] []) ?_ ?_ 0 0 (by omega) ⟨by omega, rfl⟩
  · intro i n hi ⟨h0, hn⟩ next
    have hA := gAhead_01 (chj s) (crk s) i x1 (gH (chj s) (crk s) x1)
    refine bk_X2_findPlace_11 hX hE s p0 x1 (ghalf s x1) n i ⟨rng_of (by omega) (by omega), fun h => by omega, fun _ => ⟨fun h => next _ ⟨by omega, ?_⟩, fun h => ⟨p1, by omega, p2, hH, rng_of (by unfold gahead ghalf; omega) (by unfold gahead ghalf; omega), fun h2 => next _ ⟨by omega, ?_⟩, fun h2 => next _ ⟨by omega, ?_⟩⟩⟩⟩
    · rw [gsum_s _ h0, hn, if_neg (fun z => h z.1)]; omega
    · rw [gsum_s _ h0, hn, if_neg (fun z => by have := z.2; unfold gahead ghalf at h2; omega)]; omega
    · rw [gsum_s _ h0, hn, if_pos ⟨h, by unfold gahead ghalf at h2; omega⟩]
  · intro n ⟨h0, hn⟩
    exact bk_X2_findPlace_11 hX hE s p0 x1 (ghalf s x1) n 10 ⟨rng_of (by omega) (by omega), fun _ => ⟨by rw [hn]; rfl, rfl⟩, fun h => by omega⟩

