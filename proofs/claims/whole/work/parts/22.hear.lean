theorem fl_X0_18 : gFL RX0 18 0 2 := ⟨RX0, TX0, 13, tyX0, rfl, by decide, inG_X0, (gm_1 101 rfl rfl), tyX0_ok, nmX0, fun h => absurd h (by decide)⟩
theorem fl_X0_21 : gFL RX0 21 0 3 := ⟨RX0, TX0, 13, tyX0, rfl, by decide, inG_X0, (gm_1 103 rfl rfl), tyX0_ok, nmX0, fun h => absurd h (by decide)⟩
theorem fl_X0_31 : gFL RX0 31 0 6 := ⟨RX0, TX0, 13, tyX0, rfl, by decide, inG_X0, (gm_1 109 rfl rfl), tyX0_ok, nmX0, fun _ => rfl⟩
theorem fl_X0_34 : gFL RX0 34 0 7 := ⟨RX0, TX0, 13, tyX0, rfl, by decide, inG_X0, (gm_1 111 rfl rfl), tyX0_ok, nmX0, fun _ => rfl⟩
theorem cv_X0_126 : gCV RX0 126 yX0_findOff cX0_findOff 8 (some .int) 3 0 := ⟨TX0, 13, rfl, (gm_2 104 rfl rfl), (gm_2 106 rfl rfl), (gm_s 8 rfl rfl), (gm_1 5 rfl rfl), (gm_2 107 rfl rfl), ⟨by decide, by decide, by decide +kernel⟩, by decide⟩
theorem cv_X0_130 : gCS RX0 130 yJ9_abs_0f7a4 cJ9_abs_0f7a4 1 (some .int) 1 := ⟨(gm_2 111 rfl rfl), (gm_2 72 rfl rfl), (gm_1 10 rfl rfl), (gm_2 73 rfl rfl), ⟨by decide, by decide, by decide +kernel⟩, by decide⟩
theorem glst_s (off : Int → Int) {k : Int} (h : 0 ≤ k) : glst off (k + 1) = if off k = -100000 then glst off k else off k := giter_s _ _ h
theorem gfrs_s (off : Int → Int) {k : Int} (h : 0 ≤ k) : gfrs off (k + 1) = if off k = -100000 then gfrs off k else if gfrs off k = -100000 then off k else gfrs off k := giter_s _ _ h
theorem glst_bd {off : Int → Int} {n : Int} (h : ∀ k : Int, 0 ≤ k → k < n → off k = -100000 ∨ (-4800 ≤ off k ∧ off k ≤ 4800)) : ∀ k : Int, 0 ≤ k → k ≤ n → -4800 ≤ glst off k ∧ glst off k ≤ 4800 :=
  giter_ind (f := fun i a => if off i = -100000 then a else off i) (a := (0 : Int)) (N := n) (fun _ a => -4800 ≤ a ∧ a ≤ 4800) ⟨by omega, by omega⟩ (fun i x i0 i1 hx => by
    have := h i i0 i1
    split
    · exact hx
    · omega)
theorem gfrs_bd {off : Int → Int} {n : Int} (h : ∀ k : Int, 0 ≤ k → k < n → off k = -100000 ∨ (-4800 ≤ off k ∧ off k ≤ 4800)) : ∀ k : Int, 0 ≤ k → k ≤ n → gfrs off k = -100000 ∨ (-4800 ≤ gfrs off k ∧ gfrs off k ≤ 4800) :=
  giter_ind (f := fun i a => if off i = -100000 then a else if a = -100000 then off i else a) (a := (-100000 : Int)) (N := n) (fun _ a => a = -100000 ∨ (-4800 ≤ a ∧ a ≤ 4800)) (Or.inl rfl) (fun i x i0 i1 hx => by
    have := h i i0 i1
    split
    · exact hx
    · split
      · exact this
      · exact hx)
theorem gflt_01 (off take : Int → Int) (ear k : Int) : gflt off take ear k = 0 ∨ gflt off take ear k = 1 := by
  unfold gflt
  split
  · split
    · exact Or.inr rfl
    · exact Or.inl rfl
  · exact gb_01 _
set_option maxRecDepth 100000 in
set_option maxHeartbeats 4000000 in
theorem bk_X0_hear_0 {X : gX} {G : gG} (hX : gOk X G cX0_hear 8 RX0 none 3) {Q : gS → Prop} (hE : gEnd X G (gPv (fun s' => Q s' ∧ gRg s'))) (s : gS) (hs : gRg s) (k1 : Int) (k2 : Int) (x3 : Int) (hk1 : 100 ≤ k1 ∧ k1 < 106) (hk2 : 130 ≤ k2 ∧ k2 < 140) (h : gWL X G (gpI s 4 7 0) 15 [(0, gR G 4), (1, gR G k1), (2, gR G k2), (3, vi x3), (4, vi (-100000)), (5, vi 0), (6, vi 0)] []) : gWL X G s 0 [(0, gR G 4), (1, gR G k1), (2, gR G k2), (3, vi x3)] [] := by
  refine g_ldc (n := (-100000)) hX ldc_X0_125 dX0_hear_0 rfl ?_
  refine g_istore (loc' := [(4, vi (-100000)), (0, gR G 4), (1, gR G k1), (2, gR G k2), (3, vi x3)]) hX dX0_hear_2 (by decide) rfl ?_
  refine g_iconst hX dX0_hear_4 ?_
  refine g_istore (loc' := [(5, vi 0), (4, vi (-100000)), (0, gR G 4), (1, gR G k1), (2, gR G k2), (3, vi x3)]) hX dX0_hear_5 (by decide) rfl ?_
  refine g_aload_n hX dX0_hear_7 2 rfl ?_
  refine g_iconst hX dX0_hear_8 ?_
  refine g_putI hX sh_4 7 rfl fl_X0_34 (fun _ _ _ e => by cases e; rfl) dX0_hear_9 ?_
  refine g_iconst hX dX0_hear_12 ?_
  refine g_istore (loc' := [(6, vi 0), (5, vi 0), (4, vi (-100000)), (0, gR G 4), (1, gR G k1), (2, gR G k2), (3, vi x3)]) hX dX0_hear_13 (by decide) rfl ?_
  exact g_sub [3, 4, 5, 6, 2, 1, 0] rfl h
set_option maxRecDepth 100000 in
set_option maxHeartbeats 4000000 in
theorem bk_X0_hear_15 {X : gX} {G : gG} (hX : gOk X G cX0_hear 8 RX0 none 3) {Q : gS → Prop} (hE : gEnd X G (gPv (fun s' => Q s' ∧ gRg s'))) (s : gS) (hs : gRg s) (k1 : Int) (k2 : Int) (x3 : Int) (x4 : Int) (x5 : Int) (x6 : Int) (hk1 : 100 ≤ k1 ∧ k1 < 106) (hk2 : 130 ≤ k2 ∧ k2 < 140) (h : (rng x6) ∧ (((s.1 4 4) ≤ x6 → (rng x4) ∧ ((¬ x4 = (-100000) → (rng (x4 - x5)) ∧ Q (gpI s 4 6 (x4 - x5))) ∧ (x4 = (-100000) → Q (gpI s 4 6 0)))) ∧ (x6 < (s.1 4 4) → (0 ≤ x6 ∧ x6 < 24) ∧ (130 ≤ k2 ∧ k2 < 140) ∧ (0 ≤ (s.2 (k1 + 10) x6) ∧ (s.2 (k1 + 10) x6) ≤ 4800) ∧ (gRd s k2) ∧ (gSp s k2 x6) ∧ (rng (gof (fun q => s.2 (k2 + 10) (s.2 9 x6 + q)) (s.2 (k1 + 10) x6) (s.2 10 x6))) ∧ ((¬ (s.2 10 x6) = 0 → gWL X G (gpA s 11 x6 (gof (fun q => s.2 (k2 + 10) (s.2 9 x6 + q)) (s.2 (k1 + 10) x6) (s.2 10 x6))) 62 [(0, gR G 4), (1, gR G k1), (2, gR G k2), (3, vi x3), (4, vi x4), (5, vi x5), (6, vi x6), (7, vi 0)] []) ∧ ((s.2 10 x6) = 0 → gWL X G (gpA s 11 x6 (gof (fun q => s.2 (k2 + 10) (s.2 9 x6 + q)) (s.2 (k1 + 10) x6) (s.2 10 x6))) 62 [(0, gR G 4), (1, gR G k1), (2, gR G k2), (3, vi x3), (4, vi x4), (5, vi x5), (6, vi x6), (7, vi 1)] []))))) : gWL X G s 15 [(0, gR G 4), (1, gR G k1), (2, gR G k2), (3, vi x3), (4, vi x4), (5, vi x5), (6, vi x6)] [] := by
  refine g_iload hX dX0_hear_15 6 rfl ?_
  refine g_aload_n hX dX0_hear_17 0 rfl ?_
  refine g_getI hX sh_4 4 rfl fl_X0_24 dX0_hear_18 ?_
  obtain ⟨h1, h⟩ := h
  refine g_icge (tgt := 162) hX h1 (hs.1 _ _) dX0_hear_21 (by decide) (fun c2 => ?_) (fun c2 => ?_)
  · replace h := h.1 c2
    refine g_aload_n hX dX0_hear_162 0 rfl ?_
    refine g_iload hX dX0_hear_163 4 rfl ?_
    refine g_ldc (n := (-100000)) hX ldc_X0_125 dX0_hear_165 rfl ?_
    obtain ⟨h3, h⟩ := h
    refine g_icne (tgt := 174) hX h3 (by unfold rng; omega) dX0_hear_167 (by decide) (fun c4 => ?_) (fun c4 => ?_)
    · replace h := h.1 c4
      refine g_iload hX dX0_hear_174 4 rfl ?_
      refine g_iload hX dX0_hear_176 5 rfl ?_
      refine g_isub hX dX0_hear_178 ?_
      obtain ⟨h5, h⟩ := h
      refine g_putI hX sh_4 6 rfl fl_X0_31 (fun _ _ _ e => by cases e; rfl) dX0_hear_179 ?_
      exact g_vret hX hE dX0_hear_182 ⟨h, (gRg_I hs h5)⟩
    · replace h := h.2 (gnn c4)
      refine g_iconst hX dX0_hear_170 ?_
      refine g_goto (tgt := 179) hX dX0_hear_171 (by decide) ?_
      refine g_putI hX sh_4 6 rfl fl_X0_31 (fun _ _ _ e => by cases e; rfl) dX0_hear_179 ?_
      exact g_vret hX hE dX0_hear_182 ⟨h, (gRg_I hs (by unfold rng; omega))⟩
  · replace h := h.2 (Int.not_le.mp c2)
    refine g_aload_n hX dX0_hear_24 0 rfl ?_
    refine g_getR hX sh_4 2 rfl fl_X0_18 dX0_hear_25 ?_
    refine g_iload hX dX0_hear_28 6 rfl ?_
    refine g_aload_n hX dX0_hear_30 0 rfl ?_
    refine g_aload_n hX dX0_hear_31 2 rfl ?_
    refine g_iload hX dX0_hear_32 6 rfl ?_
    refine g_aload_n hX dX0_hear_34 1 rfl ?_
    refine g_getR hX (sh_piece (by omega) (by omega)) 0 rfl fl_X0_64 dX0_hear_35 ?_
    refine g_iload hX dX0_hear_38 6 rfl ?_
    obtain ⟨h6, h⟩ := h
    refine g_iald hX (sh_pitches (by omega) (by omega)) h6 (by decide) dX0_hear_40 ?_
    obtain ⟨h7, h⟩ := h
    obtain ⟨h8, h⟩ := h
    obtain ⟨h9, h⟩ := h
    obtain ⟨h10, h⟩ := h
    refine g_cVf (As := [gR G k2, vi x6, vi (s.2 (k1 + 10) x6)]) hX (fun l => c_X0_findOff l hX.inj s k2 x6 (s.2 (k1 + 10) x6) hs h7 h6 h8 h9 h10) sh_4 cv_X0_126 (by decide) rfl (Nat.le_of_ble_eq_true rfl) dX0_hear_41 rfl (fun g11 => ?_)
    obtain ⟨h12, h⟩ := h
    refine g_iast hX sh_11 h6 (by decide) dX0_hear_44 ?_
    refine g_aload_n hX dX0_hear_45 0 rfl ?_
    refine g_getR hX sh_4 1 rfl fl_X0_15 dX0_hear_46 ?_
    refine g_iload hX dX0_hear_49 6 rfl ?_
    refine g_iald hX sh_10 h6 (by decide) dX0_hear_51 ?_
    refine g_top (gpA_nk (by decide)) ?_
    refine g_ifne (tgt := 59) hX (hs.2 _ _) dX0_hear_52 (by decide) (fun c13 => ?_) (fun c13 => ?_)
    · replace h := h.1 c13
      refine g_iconst hX dX0_hear_59 ?_
      refine g_istore (loc' := [(7, vi 0), (0, gR G 4), (1, gR G k1), (2, gR G k2), (3, vi x3), (4, vi x4), (5, vi x5), (6, vi x6)]) hX dX0_hear_60 (by decide) rfl ?_
      exact g_sub [1, 2, 3, 4, 5, 6, 7, 0] rfl h
    · replace h := h.2 (gnn c13)
      refine g_iconst hX dX0_hear_55 ?_
      refine g_goto (tgt := 60) hX dX0_hear_56 (by decide) ?_
      refine g_istore (loc' := [(7, vi 1), (0, gR G 4), (1, gR G k1), (2, gR G k2), (3, vi x3), (4, vi x4), (5, vi x5), (6, vi x6)]) hX dX0_hear_60 (by decide) rfl ?_
      exact g_sub [1, 2, 3, 4, 5, 6, 7, 0] rfl h
set_option maxRecDepth 100000 in
set_option maxHeartbeats 4000000 in
theorem bk_X0_hear_62 {X : gX} {G : gG} (hX : gOk X G cX0_hear 8 RX0 none 3) {Q : gS → Prop} (hE : gEnd X G (gPv (fun s' => Q s' ∧ gRg s'))) (s : gS) (hs : gRg s) (k1 : Int) (k2 : Int) (x3 : Int) (x4 : Int) (x5 : Int) (x6 : Int) (x7 : Int) (hk1 : 100 ≤ k1 ∧ k1 < 106) (hk2 : 130 ≤ k2 ∧ k2 < 140) (h : (0 ≤ x6 ∧ x6 < 24) ∧ (((s.2 11 x6) = (-100000) → gWL X G s 123 [(0, gR G 4), (1, gR G k1), (2, gR G k2), (3, vi x3), (4, vi x4), (5, vi x5), (6, vi x6), (7, vi x7)] []) ∧ (¬ ((s.2 11 x6) = (-100000)) → (rng ((s.2 11 x6) - x5)) ∧ (rng (gabs ((s.2 11 x6) - x5))) ∧ (rng x3) ∧ (((gabs ((s.2 11 x6) - x5)) ≤ x3 → gWL X G s 98 [(0, gR G 4), (1, gR G k1), (2, gR G k2), (3, vi x3), (4, vi x4), (6, vi x6), (7, vi 0)] []) ∧ (x3 < (gabs ((s.2 11 x6) - x5)) → gWL X G s 98 [(0, gR G 4), (1, gR G k1), (2, gR G k2), (3, vi x3), (4, vi x4), (6, vi x6), (7, vi 1)] []))))) : gWL X G s 62 [(0, gR G 4), (1, gR G k1), (2, gR G k2), (3, vi x3), (4, vi x4), (5, vi x5), (6, vi x6), (7, vi x7)] [] := by
  refine g_aload_n hX dX0_hear_62 0 rfl ?_
  refine g_getR hX sh_4 2 rfl fl_X0_18 dX0_hear_63 ?_
  refine g_iload hX dX0_hear_66 6 rfl ?_
  obtain ⟨h1, h⟩ := h
  refine g_iald hX sh_11 h1 (by decide) dX0_hear_68 ?_
  refine g_ldc (n := (-100000)) hX ldc_X0_125 dX0_hear_69 rfl ?_
  refine g_iceq (tgt := 123) hX (hs.2 _ _) (by unfold rng; omega) dX0_hear_71 (by decide) (fun c2 => ?_) (fun c2 => ?_)
  · replace h := h.1 c2
    exact h
  · replace h := h.2 c2
    refine g_aload_n hX dX0_hear_74 0 rfl ?_
    refine g_getR hX sh_4 2 rfl fl_X0_18 dX0_hear_75 ?_
    refine g_iload hX dX0_hear_78 6 rfl ?_
    refine g_iald hX sh_11 h1 (by decide) dX0_hear_80 ?_
    refine g_iload hX dX0_hear_81 5 rfl ?_
    refine g_isub hX dX0_hear_83 ?_
    obtain ⟨h3, h⟩ := h
    refine g_cSf (As := [vi ((s.2 11 x6) - x5)]) hX (fun l => c_J9_abs_0f7a4 l hX.inj s ((s.2 11 x6) - x5) hs h3) cv_X0_130 (by decide) rfl (Nat.le_of_ble_eq_true rfl) dX0_hear_84 rfl (fun g4 => ?_)
    refine g_iload_n hX dX0_hear_87 3 rfl ?_
    obtain ⟨h5, h⟩ := h
    obtain ⟨h6, h⟩ := h
    refine g_icle (tgt := 95) hX h5 h6 dX0_hear_88 (by decide) (fun c7 => ?_) (fun c7 => ?_)
    · replace h := h.1 c7
      refine g_iconst hX dX0_hear_95 ?_
      refine g_istore (loc' := [(7, vi 0), (0, gR G 4), (1, gR G k1), (2, gR G k2), (3, vi x3), (4, vi x4), (5, vi x5), (6, vi x6)]) hX dX0_hear_96 (by decide) rfl ?_
      exact g_sub [1, 2, 3, 4, 5, 7, 0] rfl h
    · replace h := h.2 (Int.not_le.mp c7)
      refine g_iconst hX dX0_hear_91 ?_
      refine g_goto (tgt := 96) hX dX0_hear_92 (by decide) ?_
      refine g_istore (loc' := [(7, vi 1), (0, gR G 4), (1, gR G k1), (2, gR G k2), (3, vi x3), (4, vi x4), (5, vi x5), (6, vi x6)]) hX dX0_hear_96 (by decide) rfl ?_
      exact g_sub [1, 2, 3, 4, 5, 7, 0] rfl h
set_option maxRecDepth 100000 in
set_option maxHeartbeats 4000000 in
theorem bk_X0_hear_98 {X : gX} {G : gG} (hX : gOk X G cX0_hear 8 RX0 none 3) {Q : gS → Prop} (hE : gEnd X G (gPv (fun s' => Q s' ∧ gRg s'))) (s : gS) (hs : gRg s) (k1 : Int) (k2 : Int) (x3 : Int) (x4 : Int) (x6 : Int) (x7 : Int) (hk1 : 100 ≤ k1 ∧ k1 < 106) (hk2 : 130 ≤ k2 ∧ k2 < 140) (h : (0 ≤ x6 ∧ x6 < 24) ∧ (rng x4) ∧ ((¬ x4 = (-100000) → gWL X G s 123 [(0, gR G 4), (1, gR G k1), (2, gR G k2), (3, vi x3), (4, vi x4), (5, vi (s.2 11 x6)), (6, vi x6), (7, vi x7)] []) ∧ (x4 = (-100000) → gWL X G s 123 [(0, gR G 4), (1, gR G k1), (2, gR G k2), (3, vi x3), (4, vi (s.2 11 x6)), (5, vi (s.2 11 x6)), (6, vi x6), (7, vi x7)] []))) : gWL X G s 98 [(0, gR G 4), (1, gR G k1), (2, gR G k2), (3, vi x3), (4, vi x4), (6, vi x6), (7, vi x7)] [] := by
  refine g_aload_n hX dX0_hear_98 0 rfl ?_
  refine g_getR hX sh_4 2 rfl fl_X0_18 dX0_hear_99 ?_
  refine g_iload hX dX0_hear_102 5 rfl ?_
  obtain ⟨h1, h⟩ := h
  refine g_iald hX sh_11 h1 (by decide) dX0_hear_104 ?_
  refine g_istore (loc' := [(5, vi (s.2 11 x6)), (0, gR G 4), (1, gR G k1), (2, gR G k2), (3, vi x3), (4, vi x4), (6, vi x6), (7, vi x7)]) hX dX0_hear_105 (by decide) rfl ?_
  refine g_iload hX dX0_hear_107 5 rfl ?_
  refine g_ldc (n := (-100000)) hX ldc_X0_125 dX0_hear_109 rfl ?_
  obtain ⟨h2, h⟩ := h
  refine g_icne (tgt := 119) hX h2 (by unfold rng; omega) dX0_hear_111 (by decide) (fun c3 => ?_) (fun c3 => ?_)
  · replace h := h.1 c3
    refine g_iload hX dX0_hear_119 5 rfl ?_
    refine g_istore (loc' := [(4, vi x4), (5, vi (s.2 11 x6)), (0, gR G 4), (1, gR G k1), (2, gR G k2), (3, vi x3), (6, vi x6), (7, vi x7)]) hX dX0_hear_121 (by decide) rfl ?_
    exact g_sub [2, 3, 4, 5, 0, 1, 6, 7] rfl h
  · replace h := h.2 (gnn c3)
    refine g_iload hX dX0_hear_114 0 rfl ?_
    refine g_goto (tgt := 121) hX dX0_hear_116 (by decide) ?_
    refine g_istore (loc' := [(4, vi (s.2 11 x6)), (5, vi (s.2 11 x6)), (0, gR G 4), (1, gR G k1), (2, gR G k2), (3, vi x3), (6, vi x6), (7, vi x7)]) hX dX0_hear_121 (by decide) rfl ?_
    exact g_sub [2, 3, 4, 5, 0, 1, 6, 7] rfl h
set_option maxRecDepth 100000 in
set_option maxHeartbeats 4000000 in
theorem bk_X0_hear_123 {X : gX} {G : gG} (hX : gOk X G cX0_hear 8 RX0 none 3) {Q : gS → Prop} (hE : gEnd X G (gPv (fun s' => Q s' ∧ gRg s'))) (s : gS) (hs : gRg s) (k1 : Int) (k2 : Int) (x3 : Int) (x4 : Int) (x5 : Int) (x6 : Int) (x7 : Int) (hk1 : 100 ≤ k1 ∧ k1 < 106) (hk2 : 130 ≤ k2 ∧ k2 < 140) (h : (rng x7) ∧ ((x7 = 0 → (0 ≤ x6 ∧ x6 < 24) ∧ (rng ((s.1 4 7) + 0)) ∧ gWL X G (gpI (gpA s 12 x6 0) 4 7 ((s.1 4 7) + 0)) 15 [(0, gR G 4), (1, gR G k1), (2, gR G k2), (3, vi x3), (4, vi x4), (5, vi x5), (6, vi (x6 + 1))] []) ∧ (¬ (x7 = 0) → (0 ≤ x6 ∧ x6 < 24) ∧ (rng ((s.1 4 7) + 1)) ∧ gWL X G (gpI (gpA s 12 x6 1) 4 7 ((s.1 4 7) + 1)) 15 [(0, gR G 4), (1, gR G k1), (2, gR G k2), (3, vi x3), (4, vi x4), (5, vi x5), (6, vi (x6 + 1))] []))) : gWL X G s 123 [(0, gR G 4), (1, gR G k1), (2, gR G k2), (3, vi x3), (4, vi x4), (5, vi x5), (6, vi x6), (7, vi x7)] [] := by
  refine g_aload_n hX dX0_hear_123 0 rfl ?_
  refine g_getR hX sh_4 3 rfl fl_X0_21 dX0_hear_124 ?_
  refine g_iload hX dX0_hear_127 6 rfl ?_
  refine g_iload hX dX0_hear_129 7 rfl ?_
  obtain ⟨h1, h⟩ := h
  refine g_ifeq (tgt := 138) hX h1 dX0_hear_131 (by decide) (fun c2 => ?_) (fun c2 => ?_)
  · replace h := h.1 c2
    refine g_iconst hX dX0_hear_138 ?_
    obtain ⟨h3, h⟩ := h
    refine g_iast hX sh_12 h3 (by decide) dX0_hear_139 ?_
    refine g_aload_n hX dX0_hear_140 0 rfl ?_
    refine g_dup hX rfl dX0_hear_141 ?_
    refine g_getI hX sh_4 7 rfl fl_X0_34 dX0_hear_142 ?_
    refine g_aload_n hX dX0_hear_145 0 rfl ?_
    refine g_getR hX sh_4 3 rfl fl_X0_21 dX0_hear_146 ?_
    refine g_iload hX dX0_hear_149 6 rfl ?_
    refine g_iald hX sh_12 h3 (by decide) dX0_hear_151 ?_
    refine g_top gpA_eq ?_
    refine g_iadd hX dX0_hear_152 ?_
    obtain ⟨h4, h⟩ := h
    refine g_putI hX sh_4 7 rfl fl_X0_34 (fun _ _ _ e => by cases e; rfl) dX0_hear_153 ?_
    refine g_iinc (loc' := [(6, vi (x6 + 1)), (0, gR G 4), (1, gR G k1), (2, gR G k2), (3, vi x3), (4, vi x4), (5, vi x5), (7, vi x7)]) hX dX0_hear_156 6 rfl (by decide) rfl ?_
    refine g_goto (tgt := 15) hX dX0_hear_159 (by decide) ?_
    exact g_sub [1, 2, 3, 4, 5, 6, 0] rfl h
  · replace h := h.2 c2
    refine g_iconst hX dX0_hear_134 ?_
    refine g_goto (tgt := 139) hX dX0_hear_135 (by decide) ?_
    obtain ⟨h5, h⟩ := h
    refine g_iast hX sh_12 h5 (by decide) dX0_hear_139 ?_
    refine g_aload_n hX dX0_hear_140 0 rfl ?_
    refine g_dup hX rfl dX0_hear_141 ?_
    refine g_getI hX sh_4 7 rfl fl_X0_34 dX0_hear_142 ?_
    refine g_aload_n hX dX0_hear_145 0 rfl ?_
    refine g_getR hX sh_4 3 rfl fl_X0_21 dX0_hear_146 ?_
    refine g_iload hX dX0_hear_149 6 rfl ?_
    refine g_iald hX sh_12 h5 (by decide) dX0_hear_151 ?_
    refine g_top gpA_eq ?_
    refine g_iadd hX dX0_hear_152 ?_
    obtain ⟨h6, h⟩ := h
    refine g_putI hX sh_4 7 rfl fl_X0_34 (fun _ _ _ e => by cases e; rfl) dX0_hear_153 ?_
    refine g_iinc (loc' := [(6, vi (x6 + 1)), (0, gR G 4), (1, gR G k1), (2, gR G k2), (3, vi x3), (4, vi x4), (5, vi x5), (7, vi x7)]) hX dX0_hear_156 6 rfl (by decide) rfl ?_
    refine g_goto (tgt := 15) hX dX0_hear_159 (by decide) ?_
    exact g_sub [1, 2, 3, 4, 5, 6, 0] rfl h
set_option maxRecDepth 100000 in
set_option maxHeartbeats 4000000 in
theorem c_X0_hear (l : Launch) {G : gG} (hG : gInj G) (s : gS) (k1 : Int) (k2 : Int) (x3 : Int) (p0 : gRg s) (p1 : 100 ≤ k1 ∧ k1 < 106) (p2 : 130 ≤ k2 ∧ k2 < 140) (p3 : gPc s k1) (p4 : gRd s k2) (p5 : s.1 4 4 = s.1 k1 2) (p6 : 0 ≤ x3 ∧ x3 ≤ 1000) (p7 : ∀ k : Int, 0 ≤ k → k < s.1 k1 2 → gSp s k2 k) : gMet l G yX0_hear cX0_hear 8 none 3 [gR G 4, gR G k1, gR G k2, vi x3] s (gPv (fun s' => (gheard s s' k1 k2 x3) ∧ gRg s')) := by
  refine gMet_of (plainFor_of_name (by decide)) hG (Nat.le_of_ble_eq_true rfl) (fun X hX hE => ?_)
  refine bk_X0_hear_0 hX hE s p0 k1 k2 x3 p1 p2 ?_
  have hps := p3.1
  have hrd := p4.1
  unfold gheard at hE
  obtain ⟨off, hoff⟩ : ∃ off : Int → Int, off = fun k => gof (fun q => s.2 (k2 + 10) (s.2 9 k + q)) (s.2 (k1 + 10) k) (s.2 10 k) := ⟨_, rfl⟩
  have hoffk : ∀ k, gof (fun q => s.2 (k2 + 10) (s.2 9 k + q)) (s.2 (k1 + 10) k) (s.2 10 k) = off k := fun k => by rw [hoff]
  rw [← hoff] at hE
  have hob : ∀ k : Int, 0 ≤ k → k < s.1 k1 2 → off k = -100000 ∨ (-4800 ≤ off k ∧ off k ≤ 4800) := by
    intro k k0 k1'
    obtain ⟨q1, q2⟩ := p7 k k0 k1'
    rw [← hoffk k]
    refine gof_bd q1.1 (p3.2 k k0 k1').1 (fun q a b => ?_)
    exact p4.2 _ (by omega) (by omega)
  have hlb := glst_bd hob
  have hfb := gfrs_bd hob
  refine gloop (α := gS × Int × Int) (hi := s.1 k1 2) (fun k a => 0 ≤ k ∧ gRg a.1 ∧ (∀ (q : Int) (j : Nat), ¬ (q = 4 ∧ (j = 6 ∨ j = 7)) → a.1.1 q j = s.1 q j) ∧ (∀ q : Int, q ≠ 11 → q ≠ 12 → a.1.2 q = s.2 q) ∧ (∀ q : Int, 0 ≤ q → q < k → a.1.2 11 q = off q ∧ a.1.2 12 q = gflt off (s.2 10) x3 q) ∧ a.1.1 4 7 = gsum (fun q => gflt off (s.2 10) x3 q) k ∧ a.2.1 = gfrs off k ∧ a.2.2 = glst off k) (fun k a => gWL X G a.1 15 [(0, gR G 4), (1, gR G k1), (2, gR G k2), (3, vi x3), (4, vi a.2.1), (5, vi a.2.2), (6, vi k)] []) ?_ ?_ 0 (gpI s 4 7 0, -100000, 0) hps.1 ⟨by omega, gRg_I p0 rng_0, fun q j h => if_neg (fun z => h ⟨z.1, Or.inr z.2⟩), fun _ _ _ => rfl, fun q q0 q1 => by omega, gpI_eq, rfl, rfl⟩
  · intro k ⟨t, x4, x5⟩ hk ⟨hk0, hg, e1, e2, hq, h7, h4, h5⟩ next
    dsimp only at hg e1 e2 hq h7 h4 h5 ⊢
    have e44 : t.1 4 4 = s.1 4 4 := e1 4 4 (by omega)
    have er : t.2 (k2 + 10) = s.2 (k2 + 10) := e2 _ (by omega) (by omega)
    have ep : t.2 (k1 + 10) = s.2 (k1 + 10) := e2 _ (by omega) (by omega)
    have e9 : t.2 9 = s.2 9 := e2 _ (by decide) (by decide)
    have e10 : t.2 10 = s.2 10 := e2 _ (by decide) (by decide)
    have ek2 : t.1 k2 1 = s.1 k2 1 := e1 k2 1 (by omega)
    have hRd : gRd t k2 := by unfold gRd; rw [ek2, er]; exact p4
    have hSp : gSp t k2 k := by unfold gSp; rw [ek2, e9, e10]; exact p7 k hk0 hk
    have hok := hob k hk0 hk
    have hl := hlb k hk0 (by omega)
    have hl1 := hlb (k + 1) (by omega) (by omega)
    have hf := hfb k hk0 (by omega)
    have hfs := gsum_bd (f := fun q => gflt off (s.2 10) x3 q) (n := k) (lo := 0) (hi := 1) hk0 (fun q _ _ => by have := gflt_01 off (s.2 10) x3 q; omega)
    have hgk : gof (fun q => t.2 (k2 + 10) (t.2 9 k + q)) (t.2 (k1 + 10) k) (t.2 10 k) = off k := by rw [er, ep, e9, e10]; exact hoffk k
    have hgu : gRg (gpA t 11 k (off k)) := gRg_A hg (rng_of (by omega) (by omega))
    -- the end of the body
    have hfin : ∀ a4 a5 a7 : Int, a7 = gflt off (s.2 10) x3 k → a4 = gfrs off (k + 1) → a5 = glst off (k + 1) → gWL X G (gpA t 11 k (off k)) 123 [(0, gR G 4), (1, gR G k1), (2, gR G k2), (3, vi x3), (4, vi a4), (5, vi a5), (6, vi k), (7, vi a7)] [] := by
      intro a4 a5 a7 ha7 ha4 ha5
      have h01 := gflt_01 off (s.2 10) x3 k
      have e47 : (gpA t 11 k (off k)).1 4 7 = gsum (fun q => gflt off (s.2 10) x3 q) k := h7
      have hgo : ∀ f : Int, f = gflt off (s.2 10) x3 k → gWL X G (gpI (gpA (gpA t 11 k (off k)) 12 k f) 4 7 ((gpA t 11 k (off k)).1 4 7 + f)) 15 [(0, gR G 4), (1, gR G k1), (2, gR G k2), (3, vi x3), (4, vi a4), (5, vi a5), (6, vi (k + 1))] [] := by
        intro f hf'
        refine next (gpI (gpA (gpA t 11 k (off k)) 12 k f) 4 7 ((gpA t 11 k (off k)).1 4 7 + f), a4, a5) ⟨by omega, gRg_I (gRg_A hgu (rng_of (by omega) (by omega))) (rng_of (by omega) (by omega)), fun q j hq' => ?_, fun q q11 q12 => ?_, fun q q0 q1 => ?_, ?_, ha4, ha5⟩
        · show (gpI _ 4 7 _).1 q j = _
          by_cases hj : j = 7
          · rw [gpI_nk (fun z => hq' ⟨z, Or.inr hj⟩)]
            exact e1 q j hq'
          · rw [gpI_nj hj]
            exact e1 q j hq'
        · show (gpA (gpA t 11 k (off k)) 12 k f).2 q = _
          rw [← e2 q q11 q12]
          funext i
          rw [gpA_nk q12, gpA_nk q11]
        · show (gpA (gpA t 11 k (off k)) 12 k f).2 11 q = _ ∧ (gpA (gpA t 11 k (off k)) 12 k f).2 12 q = _
          rw [gpA_nk (by decide)]
          by_cases e : q = k
          · subst e
            rw [gpA_eq, gpA_eq]
            exact ⟨rfl, hf'⟩
          · rw [gpA_ni e, gpA_ni e, gpA_nk (by decide)]
            exact hq q q0 (by omega)
        · show (gpI _ 4 7 _).1 4 7 = _
          rw [gpI_eq, e47, gsum_s _ hk0, hf']
      refine bk_X0_hear_123 hX hE _ hgu k1 k2 x3 a4 a5 k a7 p1 p2 ⟨rng_of (by omega) (by omega), fun h => ⟨by omega, rng_of (by omega) (by omega), hgo 0 (by omega)⟩, fun h => ⟨by omega, rng_of (by omega) (by omega), hgo 1 (by omega)⟩⟩
    have h11 : (gpA t 11 k (off k)).2 11 k = off k := gpA_eq
    -- at 62
    have hmid : ∀ a7 : Int, (a7 = if s.2 10 k = 0 then 1 else 0) → gWL X G (gpA t 11 k (off k)) 62 [(0, gR G 4), (1, gR G k1), (2, gR G k2), (3, vi x3), (4, vi x4), (5, vi x5), (6, vi k), (7, vi a7)] [] := by
      intro a7 ha7
      have hga : rng (gabs (off k - x5)) ∨ off k = -100000 := by
        rcases hok with q | q
        · exact Or.inr q
        · left; unfold gabs; split <;> exact rng_of (by omega) (by omega)
      have h98 : ∀ f : Int, ¬ off k = -100000 → f = gb (x3 < gabs (off k - glst off k)) → gWL X G (gpA t 11 k (off k)) 98 [(0, gR G 4), (1, gR G k1), (2, gR G k2), (3, vi x3), (4, vi x4), (6, vi k), (7, vi f)] [] := by
        intro f hno hf'
        have hfl : f = gflt off (s.2 10) x3 k := by unfold gflt; rw [if_neg hno]; exact hf'
        refine bk_X0_hear_98 hX hE _ hgu k1 k2 x3 x4 k f p1 p2 ⟨by omega, rng_of (by omega) (by omega), fun h => ?_, fun h => ?_⟩
        · rw [h11]
          exact hfin _ _ _ hfl (by rw [gfrs_s _ hk0, if_neg hno, if_neg (by omega), h4]) (by rw [glst_s _ hk0, if_neg hno])
        · rw [h11]
          exact hfin _ _ _ hfl (by rw [gfrs_s _ hk0, if_neg hno, if_pos (by omega)]) (by rw [glst_s _ hk0, if_neg hno])
      refine bk_X0_hear_62 hX hE _ hgu k1 k2 x3 x4 x5 k a7 p1 p2 ⟨by omega, fun h => ?_, fun h => ?_⟩
      · rw [h11] at h
        exact hfin _ _ _ (by unfold gflt; rw [if_pos h]; exact ha7) (by rw [gfrs_s _ hk0, if_pos h]; exact h4) (by rw [glst_s _ hk0, if_pos h]; exact h5)
      · rw [h11] at h ⊢
        refine ⟨rng_of (by omega) (by omega), hga.resolve_right h, rng_of (by omega) (by omega), fun h2 => h98 0 h ?_, fun h2 => h98 1 h ?_⟩
        · rw [h5] at h2; exact (gb_f (by omega)).symm
        · rw [h5] at h2; exact (gb_t h2).symm
    refine bk_X0_hear_15 hX hE t hg k1 k2 x3 x4 x5 k p1 p2 ⟨rng_of (by omega) (by omega), fun h => by omega, fun _ => ⟨by omega, p2, by rw [ep]; exact (p3.2 k hk0 hk).1, hRd, hSp, by rw [hgk]; exact rng_of (by omega) (by omega), fun h => ?_, fun h => ?_⟩⟩
    · rw [hgk]; rw [e10] at h; exact hmid 0 (by rw [if_neg h])
    · rw [hgk]; rw [e10] at h; exact hmid 1 (by rw [if_pos h])
  · intro ⟨t, x4, x5⟩ ⟨hk0, hg, e1, e2, hq, h7, h4, h5⟩
    dsimp only at hg e1 e2 hq h7 h4 h5 ⊢
    have hl := hlb _ hk0 (Int.le_refl _)
    have hf := hfb _ hk0 (Int.le_refl _)
    have hgo : ∀ v : Int, v = gsunk off (s.1 k1 2) → (∀ (k : Int) (j : Nat), ¬ (k = 4 ∧ (j = 6 ∨ j = 7)) → (gpI t 4 6 v).1 k j = s.1 k j) ∧ (∀ k : Int, k ≠ 11 → k ≠ 12 → (gpI t 4 6 v).2 k = s.2 k) ∧ (∀ k : Int, 0 ≤ k → k < s.1 k1 2 → (gpI t 4 6 v).2 11 k = gof (fun q => s.2 (k2 + 10) (s.2 9 k + q)) (s.2 (k1 + 10) k) (s.2 10 k) ∧ (gpI t 4 6 v).2 12 k = gflt off (s.2 10) x3 k) ∧ (gpI t 4 6 v).1 4 6 = gsunk off (s.1 k1 2) ∧ (gpI t 4 6 v).1 4 7 = gsum (fun k => gflt off (s.2 10) x3 k) (s.1 k1 2) := by
      intro v hv
      refine ⟨fun k j hkj => ?_, e2, fun k k0 k1' => ?_, by rw [gpI_eq]; exact hv, by rw [gpI_nj (by decide)]; exact h7⟩
      · by_cases hj : j = 6
        · rw [gpI_nk (fun z => hkj ⟨z, Or.inl hj⟩)]; exact e1 k j hkj
        · rw [gpI_nj hj]; exact e1 k j hkj
      · rw [hoffk]; exact hq k k0 k1'
    refine bk_X0_hear_15 hX hE t hg k1 k2 x3 x4 x5 _ p1 p2 ⟨rng_of (by omega) (by omega), fun _ => ⟨rng_of (by omega) (by omega), fun h => ⟨rng_of (by omega) (by omega), hgo _ ?_⟩, fun h => hgo _ ?_⟩, fun h => by rw [e1 4 4 (by omega)] at h; omega⟩
    · unfold gsunk; rw [if_neg (by omega), h4, h5]
    · unfold gsunk; rw [if_pos (by omega)]

