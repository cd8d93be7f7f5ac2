theorem fl_X5_9 : gFL RX5 9 5 0 := ⟨RX5, TX5, 5, tyX5, rfl, by decide, inG_X5, (gm_1 170 rfl rfl), tyX5_ok, nmX5, fun h => absurd h (by decide)⟩
theorem fl_X5_15 : gFL RX5 15 5 1 := ⟨RX5, TX5, 5, tyX5, rfl, by decide, inG_X5, (gm_1 171 rfl rfl), tyX5_ok, nmX5, fun h => absurd h (by decide)⟩
theorem fl_X5_18 : gFL RX5 18 5 2 := ⟨RX5, TX5, 5, tyX5, rfl, by decide, inG_X5, (gm_1 172 rfl rfl), tyX5_ok, nmX5, fun h => absurd h (by decide)⟩
theorem fl_X5_21 : gFL RX5 21 5 3 := ⟨RX5, TX5, 5, tyX5, rfl, by decide, inG_X5, (gm_1 173 rfl rfl), tyX5_ok, nmX5, fun h => absurd h (by decide)⟩
theorem fl_X5_24 : gFL RX5 24 5 4 := ⟨RX5, TX5, 5, tyX5, rfl, by decide, inG_X5, (gm_1 174 rfl rfl), tyX5_ok, nmX5, fun _ => rfl⟩
theorem fl_X8_72 : gFL RX8 72 8 22 := ⟨RX8, TX8, 34, tyX8, rfl, by decide, inG_X8, (gm_3 60 rfl rfl), tyX8_ok, nmX8, fun h => absurd h (by decide)⟩
theorem fl_X8_75 : gFL RX8 75 8 23 := ⟨RX8, TX8, 34, tyX8, rfl, by decide, inG_X8, (gm_3 61 rfl rfl), tyX8_ok, nmX8, fun h => absurd h (by decide)⟩
theorem fl_X8_78 : gFL RX8 78 8 24 := ⟨RX8, TX8, 34, tyX8, rfl, by decide, inG_X8, (gm_3 62 rfl rfl), tyX8_ok, nmX8, fun h => absurd h (by decide)⟩
theorem fl_X8_81 : gFL RX8 81 8 25 := ⟨RX8, TX8, 34, tyX8, rfl, by decide, inG_X8, (gm_3 63 rfl rfl), tyX8_ok, nmX8, fun h => absurd h (by decide)⟩
theorem fl_X8_169 : gFL RX8 169 8 21 := ⟨RX8, TX8, 34, tyX8, rfl, by decide, inG_X8, (gm_3 59 rfl rfl), tyX8_ok, nmX8, fun _ => rfl⟩
theorem cv_X5_28 : gCN RX5 28 yX7_isWithin "GleePrize" cX7_isWithin 3 (some .boolean) 3 := ⟨gn_2 213 rfl rfl, (gm_2 12 rfl rfl), (gm_1 1 rfl rfl), (gm_2 13 rfl rfl), ⟨by decide, by decide, by decide +kernel⟩, by decide⟩
theorem cv_X8_172 : gCV RX8 172 yX8_singers cX8_singers 5 (some .int) 2 8 := ⟨TX8, 34, rfl, (gm_4 30 rfl rfl), (gm_4 23 rfl rfl), (gm_4 24 rfl rfl), (gm_1 9 rfl rfl), (gm_4 25 rfl rfl), ⟨by decide, by decide, by decide +kernel⟩, by decide⟩
/-! ===== spans of members ===== -/
def gsing (A : Int → Int → Int) (kw kc kf kt c d n : Int) : Int := giter (fun i b => if A kc i = c ∧ A kf i ≤ d ∧ d ≤ A kt i then gor b (gshl 1 (A kw i)) else b) 0 n
def gsingM (s : gS) (c d : Int) : Int := if (0 ≤ c ∧ c ≤ 9) ∧ (0 ≤ d ∧ d ≤ 1000) then gsing s.2 423 424 425 426 c d (s.1 400 21) else -1
def gspan (s : gS) (kw kc kf kt ko : Int) (jo : Nat) (p c f t : Int) : gS := gpI (gpA (gpA (gpA (gpA s kw (s.1 ko jo) p) kc (s.1 ko jo) c) kf (s.1 ko jo) f) kt (s.1 ko jo) t) ko jo (s.1 ko jo + 1)
theorem gsing_rng (A : Int → Int → Int) (kw kc kf kt c d n : Int) : rng (gsing A kw kc kf kt c d n) := by
  unfold gsing giter
  induction n.toNat with
  | zero => exact rng_0
  | succ m ih =>
    show rng (if _ then _ else _)
    split
    · exact rng_i _
    · exact ih
set_option maxRecDepth 100000 in
set_option maxHeartbeats 4000000 in
theorem bk_X5_addSpan_0 {X : gX} {G : gG} (hX : gOk X G cX5_addSpan 5 RX5 (some .int) 1) {Q : Int → gS → Prop} (hE : gEnd X G (gPi (fun v s' => Q v s' ∧ gRg s'))) (s : gS) (hs : gRg s) (x1 : Int) (x2 : Int) (x3 : Int) (x4 : Int)  (h : (0 ≤ (s.1 6 4) ∧ (s.1 6 4) < 60) ∧ (rng x1) ∧ (rng x2) ∧ (rng x3) ∧ (rng x4) ∧ (rng ((s.1 6 4) + 1)) ∧ Q ((s.1 6 4) + 1) (gpI (gpA (gpA (gpA (gpA s 19 (s.1 6 4) x1) 20 (s.1 6 4) x2) 21 (s.1 6 4) x3) 22 (s.1 6 4) x4) 6 4 ((s.1 6 4) + 1))) : gWL X G s 0 [(0, gR G 6), (1, vi x1), (2, vi x2), (3, vi x3), (4, vi x4)] [] := by
  refine g_aload_n hX dX5_addSpan_0 0 rfl ?_
  refine g_getR hX sh_6 0 rfl fl_X5_9 dX5_addSpan_1 ?_
  refine g_aload_n hX dX5_addSpan_4 0 rfl ?_
  refine g_getI hX sh_6 4 rfl fl_X5_24 dX5_addSpan_5 ?_
  refine g_iload_n hX dX5_addSpan_8 1 rfl ?_
  obtain ⟨h1, h⟩ := h
  obtain ⟨h2, h⟩ := h
  refine g_iast hX sh_19 h1 (by decide) dX5_addSpan_9 ?_
  refine g_aload_n hX dX5_addSpan_10 0 rfl ?_
  refine g_getR hX sh_6 1 rfl fl_X5_15 dX5_addSpan_11 ?_
  refine g_aload_n hX dX5_addSpan_14 0 rfl ?_
  refine g_getI hX sh_6 4 rfl fl_X5_24 dX5_addSpan_15 ?_
  refine g_iload_n hX dX5_addSpan_18 2 rfl ?_
  obtain ⟨h3, h⟩ := h
  refine g_iast hX sh_20 h1 (by decide) dX5_addSpan_19 ?_
  refine g_aload_n hX dX5_addSpan_20 0 rfl ?_
  refine g_getR hX sh_6 2 rfl fl_X5_18 dX5_addSpan_21 ?_
  refine g_aload_n hX dX5_addSpan_24 0 rfl ?_
  refine g_getI hX sh_6 4 rfl fl_X5_24 dX5_addSpan_25 ?_
  refine g_iload_n hX dX5_addSpan_28 3 rfl ?_
  obtain ⟨h4, h⟩ := h
  refine g_iast hX sh_21 h1 (by decide) dX5_addSpan_29 ?_
  refine g_aload_n hX dX5_addSpan_30 0 rfl ?_
  refine g_getR hX sh_6 3 rfl fl_X5_21 dX5_addSpan_31 ?_
  refine g_aload_n hX dX5_addSpan_34 0 rfl ?_
  refine g_getI hX sh_6 4 rfl fl_X5_24 dX5_addSpan_35 ?_
  refine g_iload hX dX5_addSpan_38 4 rfl ?_
  obtain ⟨h5, h⟩ := h
  refine g_iast hX sh_22 h1 (by decide) dX5_addSpan_40 ?_
  refine g_aload_n hX dX5_addSpan_41 0 rfl ?_
  refine g_dup hX rfl dX5_addSpan_42 ?_
  refine g_getI hX sh_6 4 rfl fl_X5_24 dX5_addSpan_43 ?_
  refine g_iconst hX dX5_addSpan_46 ?_
  refine g_iadd hX dX5_addSpan_47 ?_
  obtain ⟨h6, h⟩ := h
  refine g_putI hX sh_6 4 rfl fl_X5_24 (fun _ _ _ e => by cases e; rfl) dX5_addSpan_48 ?_
  refine g_aload_n hX dX5_addSpan_51 0 rfl ?_
  refine g_getI hX sh_6 4 rfl fl_X5_24 dX5_addSpan_52 ?_
  refine g_top gpI_eq ?_
  exact g_iret hX hE dX5_addSpan_55 ⟨h, (gRg_I (gRg_A (gRg_A (gRg_A (gRg_A hs h2) h3) h4) h5) h6)⟩
set_option maxRecDepth 100000 in
set_option maxHeartbeats 4000000 in
theorem c_X5_addSpan (l : Launch) {G : gG} (hG : gInj G) (s : gS) (x1 : Int) (x2 : Int) (x3 : Int) (x4 : Int) (p0 : gRg s) (p1 : rng x1) (p2 : rng x2) (p3 : rng x3) (p4 : rng x4) (p5 : 0 ≤ (s.1 6 4) ∧ (s.1 6 4) < 60) : gMet l G yX5_addSpan cX5_addSpan 5 (some .int) 1 [gR G 6, vi x1, vi x2, vi x3, vi x4] s (gPi (fun v s' => (v = (s.1 6 4) + 1 ∧ s' = gspan s 19 20 21 22 6 4 x1 x2 x3 x4) ∧ gRg s')) := by
  refine gMet_of (plainFor_of_name (by decide)) hG (Nat.le_of_ble_eq_true rfl) (fun X hX hE => ?_)
  refine bk_X5_addSpan_0 hX hE s p0 x1 x2 x3 x4  ?_
  exact ⟨p5, p1, p2, p3, p4, rng_of (by omega) (by omega), rfl, rfl⟩
set_option maxRecDepth 100000 in
set_option maxHeartbeats 4000000 in
theorem bk_X5_findSingers_0 {X : gX} {G : gG} (hX : gOk X G cX5_findSingers 5 RX5 (some .int) 2) {Q : Int → gS → Prop} (hE : gEnd X G (gPi (fun v s' => Q v s' ∧ gRg s'))) (s : gS) (hs : gRg s) (x1 : Int) (x2 : Int)  (h : gWL X G s 5 [(0, gR G 6), (1, vi x1), (2, vi x2), (3, vi 0), (4, vi 0)] []) : gWL X G s 0 [(0, gR G 6), (1, vi x1), (2, vi x2)] [] := by
  refine g_iconst hX dX5_findSingers_0 ?_
  refine g_istore_n (loc' := [(3, vi 0), (0, gR G 6), (1, vi x1), (2, vi x2)]) hX dX5_findSingers_1 (by decide) rfl ?_
  refine g_iconst hX dX5_findSingers_2 ?_
  refine g_istore (loc' := [(4, vi 0), (3, vi 0), (0, gR G 6), (1, vi x1), (2, vi x2)]) hX dX5_findSingers_3 (by decide) rfl ?_
  exact g_sub [2, 3, 4, 1, 0] rfl h
set_option maxRecDepth 100000 in
set_option maxHeartbeats 4000000 in
theorem bk_X5_findSingers_5 {X : gX} {G : gG} (hX : gOk X G cX5_findSingers 5 RX5 (some .int) 2) {Q : Int → gS → Prop} (hE : gEnd X G (gPi (fun v s' => Q v s' ∧ gRg s'))) (s : gS) (hs : gRg s) (x1 : Int) (x2 : Int) (x3 : Int) (x4 : Int)  (h : (rng x4) ∧ (((s.1 6 4) ≤ x4 → Q x3 s) ∧ (x4 < (s.1 6 4) → (0 ≤ x4 ∧ x4 < 60) ∧ (rng x1) ∧ ((¬ (s.2 20 x4) = x1 → gWL X G s 5 [(0, gR G 6), (1, vi x1), (2, vi x2), (3, vi x3), (4, vi (x4 + 1))] []) ∧ ((s.2 20 x4) = x1 → (rng x2) ∧ ((¬ ((s.2 21 x4) ≤ x2 ∧ x2 ≤ (s.2 22 x4)) → gWL X G s 5 [(0, gR G 6), (1, vi x1), (2, vi x2), (3, vi x3), (4, vi (x4 + 1))] []) ∧ ((s.2 21 x4) ≤ x2 ∧ x2 ≤ (s.2 22 x4) → gWL X G s 5 [(0, gR G 6), (1, vi x1), (2, vi x2), (3, vi (gor x3 (gshl 1 (s.2 19 x4)))), (4, vi (x4 + 1))] []))))))) : gWL X G s 5 [(0, gR G 6), (1, vi x1), (2, vi x2), (3, vi x3), (4, vi x4)] [] := by
  refine g_iload hX dX5_findSingers_5 4 rfl ?_
  refine g_aload_n hX dX5_findSingers_7 0 rfl ?_
  refine g_getI hX sh_6 4 rfl fl_X5_24 dX5_findSingers_8 ?_
  obtain ⟨h1, h⟩ := h
  refine g_icge (tgt := 64) hX h1 (hs.1 _ _) dX5_findSingers_11 (by decide) (fun c2 => ?_) (fun c2 => ?_)
  · replace h := h.1 c2
    refine g_iload_n hX dX5_findSingers_64 3 rfl ?_
    exact g_iret hX hE dX5_findSingers_65 ⟨h, hs⟩
  · replace h := h.2 (Int.not_le.mp c2)
    refine g_aload_n hX dX5_findSingers_14 0 rfl ?_
    refine g_getR hX sh_6 1 rfl fl_X5_15 dX5_findSingers_15 ?_
    refine g_iload hX dX5_findSingers_18 4 rfl ?_
    obtain ⟨h3, h⟩ := h
    refine g_iald hX sh_20 h3 (by decide) dX5_findSingers_20 ?_
    refine g_iload_n hX dX5_findSingers_21 1 rfl ?_
    obtain ⟨h4, h⟩ := h
    refine g_icne (tgt := 58) hX (hs.2 _ _) h4 dX5_findSingers_22 (by decide) (fun c5 => ?_) (fun c5 => ?_)
    · replace h := h.1 c5
      refine g_iinc (loc' := [(4, vi (x4 + 1)), (0, gR G 6), (1, vi x1), (2, vi x2), (3, vi x3)]) hX dX5_findSingers_58 4 rfl (by decide) rfl ?_
      refine g_goto (tgt := 5) hX dX5_findSingers_61 (by decide) ?_
      exact g_sub [1, 2, 3, 4, 0] rfl h
    · replace h := h.2 (gnn c5)
      refine g_iload_n hX dX5_findSingers_25 2 rfl ?_
      refine g_aload_n hX dX5_findSingers_26 0 rfl ?_
      refine g_getR hX sh_6 2 rfl fl_X5_18 dX5_findSingers_27 ?_
      refine g_iload hX dX5_findSingers_30 4 rfl ?_
      refine g_iald hX sh_21 h3 (by decide) dX5_findSingers_32 ?_
      refine g_aload_n hX dX5_findSingers_33 0 rfl ?_
      refine g_getR hX sh_6 3 rfl fl_X5_21 dX5_findSingers_34 ?_
      refine g_iload hX dX5_findSingers_37 4 rfl ?_
      refine g_iald hX sh_22 h3 (by decide) dX5_findSingers_39 ?_
      obtain ⟨h6, h⟩ := h
      refine g_cSNf (As := [vi x2, vi (s.2 21 x4), vi (s.2 22 x4)]) hX (fun l => c_X7_isWithin l hX.inj s x2 (s.2 21 x4) (s.2 22 x4) hs h6 (hs.2 _ _) (hs.2 _ _)) cv_X5_28 (by decide) rfl (Nat.le_of_ble_eq_true rfl) dX5_findSingers_40 rfl (fun g7 => ?_)
      refine g_ifeq (tgt := 58) hX (gb_rng _) dX5_findSingers_43 (by decide) (fun c8 => ?_) (fun c8 => ?_)
      · replace h := h.1 (gb_eq0.mp c8)
        refine g_iinc (loc' := [(4, vi (x4 + 1)), (0, gR G 6), (1, vi x1), (2, vi x2), (3, vi x3)]) hX dX5_findSingers_58 4 rfl (by decide) rfl ?_
        refine g_goto (tgt := 5) hX dX5_findSingers_61 (by decide) ?_
        exact g_sub [1, 2, 3, 4, 0] rfl h
      · replace h := h.2 (gb_n0.mp c8)
        refine g_iload_n hX dX5_findSingers_46 3 rfl ?_
        refine g_iconst hX dX5_findSingers_47 ?_
        refine g_aload_n hX dX5_findSingers_48 0 rfl ?_
        refine g_getR hX sh_6 0 rfl fl_X5_9 dX5_findSingers_49 ?_
        refine g_iload hX dX5_findSingers_52 4 rfl ?_
        refine g_iald hX sh_19 h3 (by decide) dX5_findSingers_54 ?_
        refine g_ishl hX dX5_findSingers_55 ?_
        refine g_ior hX dX5_findSingers_56 ?_
        refine g_istore_n (loc' := [(3, vi (gor x3 (gshl 1 (s.2 19 x4)))), (0, gR G 6), (1, vi x1), (2, vi x2), (4, vi x4)]) hX dX5_findSingers_57 (by decide) rfl ?_
        refine g_iinc (loc' := [(4, vi (x4 + 1)), (3, vi (gor x3 (gshl 1 (s.2 19 x4)))), (0, gR G 6), (1, vi x1), (2, vi x2)]) hX dX5_findSingers_58 4 rfl (by decide) rfl ?_
        refine g_goto (tgt := 5) hX dX5_findSingers_61 (by decide) ?_
        exact g_sub [2, 3, 4, 1, 0] rfl h
set_option maxRecDepth 100000 in
set_option maxHeartbeats 4000000 in
theorem c_X5_findSingers (l : Launch) {G : gG} (hG : gInj G) (s : gS) (x1 : Int) (x2 : Int) (p0 : gRg s) (p1 : rng x1) (p2 : rng x2) (p3 : 0 ≤ (s.1 6 4) ∧ (s.1 6 4) ≤ 60) : gMet l G yX5_findSingers cX5_findSingers 5 (some .int) 2 [gR G 6, vi x1, vi x2] s (gPi (fun v s' => (v = (gsing s.2 19 20 21 22 x1 x2 (s.1 6 4)) ∧ s' = s) ∧ gRg s')) := by
  refine gMet_of (plainFor_of_name (by decide)) hG (Nat.le_of_ble_eq_true rfl) (fun X hX hE => ?_)
  refine bk_X5_findSingers_0 hX hE s p0 x1 x2  ?_
  refine gloop (α := Int) (hi := s.1 6 4) (fun i b => 0 ≤ i ∧ b = gsing s.2 19 20 21 22 x1 x2 i) (fun i b => gWL X G s 5 [(0, gR G 6), (1, vi x1), (2, vi x2), (3, vi b), (4, vi i)] []) ?_ ?_ 0 0 p3.1 ⟨by omega, rfl⟩
  · intro i b hi ⟨h0, hb⟩ next
    have hstep : gsing s.2 19 20 21 22 x1 x2 (i + 1) = if s.2 20 i = x1 ∧ s.2 21 i ≤ x2 ∧ x2 ≤ s.2 22 i then gor b (gshl 1 (s.2 19 i)) else b := by
      unfold gsing; rw [giter_s _ _ h0, hb]; rfl
    refine bk_X5_findSingers_5 hX hE s p0 x1 x2 b i ⟨rng_of (by omega) (by omega), fun h => by omega, fun _ => ⟨by omega, p1, fun h => next _ ⟨by omega, ?_⟩, fun h => ⟨p2, fun h2 => next _ ⟨by omega, ?_⟩, fun h2 => next _ ⟨by omega, ?_⟩⟩⟩⟩
    · rw [hstep, if_neg (fun z => h z.1)]
    · rw [hstep, if_neg (fun z => h2 z.2)]
    · rw [hstep, if_pos ⟨h, h2⟩]
  · intro b ⟨h0, hb⟩
    exact bk_X5_findSingers_5 hX hE s p0 x1 x2 b _ ⟨rng_of (by omega) (by omega), fun _ => ⟨hb, rfl⟩, fun h => by omega⟩
set_option maxRecDepth 100000 in
set_option maxHeartbeats 4000000 in
theorem bk_X8_member_0 {X : gX} {G : gG} (hX : gOk X G cX8_member 5 RX8 (some .int) 2) {Q : Int → gS → Prop} (hE : gEnd X G (gPi (fun v s' => Q v s' ∧ gRg s'))) (s : gS) (hs : gRg s) (x1 : Int) (x2 : Int) (x3 : Int) (x4 : Int)  (h : (rng x1) ∧ ((¬ (0 ≤ x1 ∧ x1 ≤ 29) → Q (-1) s) ∧ (0 ≤ x1 ∧ x1 ≤ 29 → (rng x2) ∧ ((¬ (0 ≤ x2 ∧ x2 ≤ 9) → Q (-1) s) ∧ (0 ≤ x2 ∧ x2 ≤ 9 → (rng x3) ∧ ((¬ (0 ≤ x3 ∧ x3 ≤ 1000) → Q (-1) s) ∧ (0 ≤ x3 ∧ x3 ≤ 1000 → (rng x4) ∧ ((¬ (x3 ≤ x4 ∧ x4 ≤ 1000) → Q (-1) s) ∧ (x3 ≤ x4 ∧ x4 ≤ 1000 → ((¬ (s.1 400 21) = 60 → (0 ≤ (s.1 400 21) ∧ (s.1 400 21) < 60) ∧ (rng ((s.1 400 21) + 1)) ∧ Q ((s.1 400 21) + 1) (gpI (gpA (gpA (gpA (gpA s 423 (s.1 400 21) x1) 424 (s.1 400 21) x2) 425 (s.1 400 21) x3) 426 (s.1 400 21) x4) 400 21 ((s.1 400 21) + 1))) ∧ ((s.1 400 21) = 60 → Q (-1) s))))))))))) : gWL X G s 0 [(0, gR G 400), (1, vi x1), (2, vi x2), (3, vi x3), (4, vi x4)] [] := by
  refine g_iload_n hX dX8_member_0 1 rfl ?_
  refine g_iconst hX dX8_member_1 ?_
  refine g_bipush hX dX8_member_2 rfl ?_
  obtain ⟨h1, h⟩ := h
  refine g_cSf (As := [vi x1, vi 0, vi 29]) hX (fun l => c_X8_isIn l hX.inj s x1 0 29 hs h1 (by unfold rng; omega) (by unfold rng; omega)) cv_X8_102 (by decide) rfl (Nat.le_of_ble_eq_true rfl) dX8_member_4 rfl (fun g2 => ?_)
  refine g_ifeq (tgt := 52) hX (gb_rng _) dX8_member_7 (by decide) (fun c3 => ?_) (fun c3 => ?_)
  · replace h := h.1 (gb_eq0.mp c3)
    refine g_iconst hX dX8_member_52 ?_
    exact g_iret hX hE dX8_member_53 ⟨h, hs⟩
  · replace h := h.2 (gb_n0.mp c3)
    refine g_iload_n hX dX8_member_10 2 rfl ?_
    refine g_iconst hX dX8_member_11 ?_
    refine g_bipush hX dX8_member_12 rfl ?_
    obtain ⟨h4, h⟩ := h
    refine g_cSf (As := [vi x2, vi 0, vi 9]) hX (fun l => c_X8_isIn l hX.inj s x2 0 9 hs h4 (by unfold rng; omega) (by unfold rng; omega)) cv_X8_102 (by decide) rfl (Nat.le_of_ble_eq_true rfl) dX8_member_14 rfl (fun g5 => ?_)
    refine g_ifeq (tgt := 52) hX (gb_rng _) dX8_member_17 (by decide) (fun c6 => ?_) (fun c6 => ?_)
    · replace h := h.1 (gb_eq0.mp c6)
      refine g_iconst hX dX8_member_52 ?_
      exact g_iret hX hE dX8_member_53 ⟨h, hs⟩
    · replace h := h.2 (gb_n0.mp c6)
      refine g_iload_n hX dX8_member_20 3 rfl ?_
      refine g_iconst hX dX8_member_21 ?_
      refine g_sipush hX dX8_member_22 rfl ?_
      obtain ⟨h7, h⟩ := h
      refine g_cSf (As := [vi x3, vi 0, vi 1000]) hX (fun l => c_X8_isIn l hX.inj s x3 0 1000 hs h7 (by unfold rng; omega) (by unfold rng; omega)) cv_X8_102 (by decide) rfl (Nat.le_of_ble_eq_true rfl) dX8_member_25 rfl (fun g8 => ?_)
      refine g_ifeq (tgt := 52) hX (gb_rng _) dX8_member_28 (by decide) (fun c9 => ?_) (fun c9 => ?_)
      · replace h := h.1 (gb_eq0.mp c9)
        refine g_iconst hX dX8_member_52 ?_
        exact g_iret hX hE dX8_member_53 ⟨h, hs⟩
      · replace h := h.2 (gb_n0.mp c9)
        refine g_iload hX dX8_member_31 4 rfl ?_
        refine g_iload_n hX dX8_member_33 3 rfl ?_
        refine g_sipush hX dX8_member_34 rfl ?_
        obtain ⟨h10, h⟩ := h
        refine g_cSf (As := [vi x4, vi x3, vi 1000]) hX (fun l => c_X8_isIn l hX.inj s x4 x3 1000 hs h10 h7 (by unfold rng; omega)) cv_X8_102 (by decide) rfl (Nat.le_of_ble_eq_true rfl) dX8_member_37 rfl (fun g11 => ?_)
        refine g_ifeq (tgt := 52) hX (gb_rng _) dX8_member_40 (by decide) (fun c12 => ?_) (fun c12 => ?_)
        · replace h := h.1 (gb_eq0.mp c12)
          refine g_iconst hX dX8_member_52 ?_
          exact g_iret hX hE dX8_member_53 ⟨h, hs⟩
        · replace h := h.2 (gb_n0.mp c12)
          refine g_aload_n hX dX8_member_43 0 rfl ?_
          refine g_getI hX sh_400 21 rfl fl_X8_169 dX8_member_44 ?_
          refine g_bipush hX dX8_member_47 rfl ?_
          refine g_icne (tgt := 54) hX (hs.1 _ _) (by unfold rng; omega) dX8_member_49 (by decide) (fun c13 => ?_) (fun c13 => ?_)
          · replace h := h.1 c13
            refine g_aload_n hX dX8_member_54 0 rfl ?_
            refine g_getR hX sh_400 22 rfl fl_X8_72 dX8_member_55 ?_
            refine g_aload_n hX dX8_member_58 0 rfl ?_
            refine g_getI hX sh_400 21 rfl fl_X8_169 dX8_member_59 ?_
            refine g_iload_n hX dX8_member_62 1 rfl ?_
            obtain ⟨h14, h⟩ := h
            refine g_iast hX sh_423 h14 (by decide) dX8_member_63 ?_
            refine g_aload_n hX dX8_member_64 0 rfl ?_
            refine g_getR hX sh_400 23 rfl fl_X8_75 dX8_member_65 ?_
            refine g_aload_n hX dX8_member_68 0 rfl ?_
            refine g_getI hX sh_400 21 rfl fl_X8_169 dX8_member_69 ?_
            refine g_iload_n hX dX8_member_72 2 rfl ?_
            refine g_iast hX sh_424 h14 (by decide) dX8_member_73 ?_
            refine g_aload_n hX dX8_member_74 0 rfl ?_
            refine g_getR hX sh_400 24 rfl fl_X8_78 dX8_member_75 ?_
            refine g_aload_n hX dX8_member_78 0 rfl ?_
            refine g_getI hX sh_400 21 rfl fl_X8_169 dX8_member_79 ?_
            refine g_iload_n hX dX8_member_82 3 rfl ?_
            refine g_iast hX sh_425 h14 (by decide) dX8_member_83 ?_
            refine g_aload_n hX dX8_member_84 0 rfl ?_
            refine g_getR hX sh_400 25 rfl fl_X8_81 dX8_member_85 ?_
            refine g_aload_n hX dX8_member_88 0 rfl ?_
            refine g_getI hX sh_400 21 rfl fl_X8_169 dX8_member_89 ?_
            refine g_iload hX dX8_member_92 4 rfl ?_
            refine g_iast hX sh_426 h14 (by decide) dX8_member_94 ?_
            refine g_aload_n hX dX8_member_95 0 rfl ?_
            refine g_dup hX rfl dX8_member_96 ?_
            refine g_getI hX sh_400 21 rfl fl_X8_169 dX8_member_97 ?_
            refine g_iconst hX dX8_member_100 ?_
            refine g_iadd hX dX8_member_101 ?_
            obtain ⟨h15, h⟩ := h
            refine g_putI hX sh_400 21 rfl fl_X8_169 (fun _ _ _ e => by cases e; rfl) dX8_member_102 ?_
            refine g_aload_n hX dX8_member_105 0 rfl ?_
            refine g_getI hX sh_400 21 rfl fl_X8_169 dX8_member_106 ?_
            refine g_top gpI_eq ?_
            exact g_iret hX hE dX8_member_109 ⟨h, (gRg_I (gRg_A (gRg_A (gRg_A (gRg_A hs h1) h4) h7) h10) h15)⟩
          · replace h := h.2 (gnn c13)
            refine g_iconst hX dX8_member_52 ?_
            exact g_iret hX hE dX8_member_53 ⟨h, hs⟩
set_option maxRecDepth 100000 in
set_option maxHeartbeats 4000000 in
theorem c_X8_member (l : Launch) {G : gG} (hG : gInj G) (s : gS) (x1 : Int) (x2 : Int) (x3 : Int) (x4 : Int) (p0 : gRg s) (p1 : rng x1) (p2 : rng x2) (p3 : rng x3) (p4 : rng x4) (p5 : 0 ≤ (s.1 400 21) ∧ (s.1 400 21) ≤ 60) : gMet l G yX8_member cX8_member 5 (some .int) 2 [gR G 400, vi x1, vi x2, vi x3, vi x4] s (gPi (fun v s' => (if (0 ≤ x1 ∧ x1 ≤ 29) ∧ (0 ≤ x2 ∧ x2 ≤ 9) ∧ (0 ≤ x3 ∧ x3 ≤ 1000) ∧ (x3 ≤ x4 ∧ x4 ≤ 1000) ∧ (s.1 400 21) < 60 then v = (s.1 400 21) + 1 ∧ s' = gspan s 423 424 425 426 400 21 x1 x2 x3 x4 else v = -1 ∧ s' = s) ∧ gRg s')) := by
  refine gMet_of (plainFor_of_name (by decide)) hG (Nat.le_of_ble_eq_true rfl) (fun X hX hE => ?_)
  refine bk_X8_member_0 hX hE s p0 x1 x2 x3 x4  ?_
  refine ⟨p1, fun a1 => ?_, fun a1 => ⟨p2, fun a2 => ?_, fun a2 => ⟨p3, fun a3 => ?_, fun a3 => ⟨p4, fun a4 => ?_, fun a4 => ⟨fun a5 => ⟨by omega, rng_of (by omega) (by omega), ?_⟩, fun a5 => ?_⟩⟩⟩⟩⟩
  any_goals (rw [if_neg (by omega)]; exact ⟨rfl, rfl⟩)
  rw [if_pos (by omega)]
  exact ⟨rfl, rfl⟩
set_option maxRecDepth 100000 in
set_option maxHeartbeats 4000000 in
theorem bk_X8_singers_0 {X : gX} {G : gG} (hX : gOk X G cX8_singers 5 RX8 (some .int) 2) {Q : Int → gS → Prop} (hE : gEnd X G (gPi (fun v s' => Q v s' ∧ gRg s'))) (s : gS) (hs : gRg s) (x1 : Int) (x2 : Int)  (h : (rng x1) ∧ ((¬ (0 ≤ x1 ∧ x1 ≤ 9) → Q (-1) s) ∧ (0 ≤ x1 ∧ x1 ≤ 9 → (rng x2) ∧ ((0 ≤ x2 ∧ x2 ≤ 1000 → gWL X G s 28 [(0, gR G 400), (1, vi x1), (2, vi x2), (3, vi 0), (4, vi 0)] []) ∧ (¬ (0 ≤ x2 ∧ x2 ≤ 1000) → Q (-1) s))))) : gWL X G s 0 [(0, gR G 400), (1, vi x1), (2, vi x2)] [] := by
  refine g_iload_n hX dX8_singers_0 1 rfl ?_
  refine g_iconst hX dX8_singers_1 ?_
  refine g_bipush hX dX8_singers_2 rfl ?_
  obtain ⟨h1, h⟩ := h
  refine g_cSf (As := [vi x1, vi 0, vi 9]) hX (fun l => c_X8_isIn l hX.inj s x1 0 9 hs h1 (by unfold rng; omega) (by unfold rng; omega)) cv_X8_102 (by decide) rfl (Nat.le_of_ble_eq_true rfl) dX8_singers_4 rfl (fun g2 => ?_)
  refine g_ifeq (tgt := 21) hX (gb_rng _) dX8_singers_7 (by decide) (fun c3 => ?_) (fun c3 => ?_)
  · replace h := h.1 (gb_eq0.mp c3)
    refine g_iconst hX dX8_singers_21 ?_
    exact g_iret hX hE dX8_singers_22 ⟨h, hs⟩
  · replace h := h.2 (gb_n0.mp c3)
    refine g_iload_n hX dX8_singers_10 2 rfl ?_
    refine g_iconst hX dX8_singers_11 ?_
    refine g_sipush hX dX8_singers_12 rfl ?_
    obtain ⟨h4, h⟩ := h
    refine g_cSf (As := [vi x2, vi 0, vi 1000]) hX (fun l => c_X8_isIn l hX.inj s x2 0 1000 hs h4 (by unfold rng; omega) (by unfold rng; omega)) cv_X8_102 (by decide) rfl (Nat.le_of_ble_eq_true rfl) dX8_singers_15 rfl (fun g5 => ?_)
    refine g_ifne (tgt := 23) hX (gb_rng _) dX8_singers_18 (by decide) (fun c6 => ?_) (fun c6 => ?_)
    · replace h := h.1 (gb_n0.mp c6)
      refine g_iconst hX dX8_singers_23 ?_
      refine g_istore_n (loc' := [(3, vi 0), (0, gR G 400), (1, vi x1), (2, vi x2)]) hX dX8_singers_24 (by decide) rfl ?_
      refine g_iconst hX dX8_singers_25 ?_
      refine g_istore (loc' := [(4, vi 0), (3, vi 0), (0, gR G 400), (1, vi x1), (2, vi x2)]) hX dX8_singers_26 (by decide) rfl ?_
      exact g_sub [2, 3, 4, 1, 0] rfl h
    · replace h := h.2 (gb_eq0.mp (gnn c6))
      refine g_iconst hX dX8_singers_21 ?_
      exact g_iret hX hE dX8_singers_22 ⟨h, hs⟩
set_option maxRecDepth 100000 in
set_option maxHeartbeats 4000000 in
theorem bk_X8_singers_28 {X : gX} {G : gG} (hX : gOk X G cX8_singers 5 RX8 (some .int) 2) {Q : Int → gS → Prop} (hE : gEnd X G (gPi (fun v s' => Q v s' ∧ gRg s'))) (s : gS) (hs : gRg s) (x1 : Int) (x2 : Int) (x3 : Int) (x4 : Int)  (h : (rng x4) ∧ (((s.1 400 21) ≤ x4 → Q x3 s) ∧ (x4 < (s.1 400 21) → (0 ≤ x4 ∧ x4 < 60) ∧ (rng x1) ∧ ((¬ (s.2 424 x4) = x1 → gWL X G s 28 [(0, gR G 400), (1, vi x1), (2, vi x2), (3, vi x3), (4, vi (x4 + 1))] []) ∧ ((s.2 424 x4) = x1 → (rng x2) ∧ ((x2 < (s.2 425 x4) → gWL X G s 28 [(0, gR G 400), (1, vi x1), (2, vi x2), (3, vi x3), (4, vi (x4 + 1))] []) ∧ ((s.2 425 x4) ≤ x2 → (((s.2 426 x4) < x2 → gWL X G s 28 [(0, gR G 400), (1, vi x1), (2, vi x2), (3, vi x3), (4, vi (x4 + 1))] []) ∧ (x2 ≤ (s.2 426 x4) → gWL X G s 28 [(0, gR G 400), (1, vi x1), (2, vi x2), (3, vi (gor x3 (gshl 1 (s.2 423 x4)))), (4, vi (x4 + 1))] []))))))))) : gWL X G s 28 [(0, gR G 400), (1, vi x1), (2, vi x2), (3, vi x3), (4, vi x4)] [] := by
  refine g_iload hX dX8_singers_28 4 rfl ?_
  refine g_aload_n hX dX8_singers_30 0 rfl ?_
  refine g_getI hX sh_400 21 rfl fl_X8_169 dX8_singers_31 ?_
  obtain ⟨h1, h⟩ := h
  refine g_icge (tgt := 88) hX h1 (hs.1 _ _) dX8_singers_34 (by decide) (fun c2 => ?_) (fun c2 => ?_)
  · replace h := h.1 c2
    refine g_iload_n hX dX8_singers_88 3 rfl ?_
    exact g_iret hX hE dX8_singers_89 ⟨h, hs⟩
  · replace h := h.2 (Int.not_le.mp c2)
    refine g_aload_n hX dX8_singers_37 0 rfl ?_
    refine g_getR hX sh_400 23 rfl fl_X8_75 dX8_singers_38 ?_
    refine g_iload hX dX8_singers_41 4 rfl ?_
    obtain ⟨h3, h⟩ := h
    refine g_iald hX sh_424 h3 (by decide) dX8_singers_43 ?_
    refine g_iload_n hX dX8_singers_44 1 rfl ?_
    obtain ⟨h4, h⟩ := h
    refine g_icne (tgt := 82) hX (hs.2 _ _) h4 dX8_singers_45 (by decide) (fun c5 => ?_) (fun c5 => ?_)
    · replace h := h.1 c5
      refine g_iinc (loc' := [(4, vi (x4 + 1)), (0, gR G 400), (1, vi x1), (2, vi x2), (3, vi x3)]) hX dX8_singers_82 4 rfl (by decide) rfl ?_
      refine g_goto (tgt := 28) hX dX8_singers_85 (by decide) ?_
      exact g_sub [1, 2, 3, 4, 0] rfl h
    · replace h := h.2 (gnn c5)
      refine g_aload_n hX dX8_singers_48 0 rfl ?_
      refine g_getR hX sh_400 24 rfl fl_X8_78 dX8_singers_49 ?_
      refine g_iload hX dX8_singers_52 4 rfl ?_
      refine g_iald hX sh_425 h3 (by decide) dX8_singers_54 ?_
      refine g_iload_n hX dX8_singers_55 2 rfl ?_
      obtain ⟨h6, h⟩ := h
      refine g_icgt (tgt := 82) hX (hs.2 _ _) h6 dX8_singers_56 (by decide) (fun c7 => ?_) (fun c7 => ?_)
      · replace h := h.1 c7
        refine g_iinc (loc' := [(4, vi (x4 + 1)), (0, gR G 400), (1, vi x1), (2, vi x2), (3, vi x3)]) hX dX8_singers_82 4 rfl (by decide) rfl ?_
        refine g_goto (tgt := 28) hX dX8_singers_85 (by decide) ?_
        exact g_sub [1, 2, 3, 4, 0] rfl h
      · replace h := h.2 (Int.not_lt.mp c7)
        refine g_aload_n hX dX8_singers_59 0 rfl ?_
        refine g_getR hX sh_400 25 rfl fl_X8_81 dX8_singers_60 ?_
        refine g_iload hX dX8_singers_63 4 rfl ?_
        refine g_iald hX sh_426 h3 (by decide) dX8_singers_65 ?_
        refine g_iload_n hX dX8_singers_66 2 rfl ?_
        refine g_iclt (tgt := 82) hX (hs.2 _ _) h6 dX8_singers_67 (by decide) (fun c8 => ?_) (fun c8 => ?_)
        · replace h := h.1 c8
          refine g_iinc (loc' := [(4, vi (x4 + 1)), (0, gR G 400), (1, vi x1), (2, vi x2), (3, vi x3)]) hX dX8_singers_82 4 rfl (by decide) rfl ?_
          refine g_goto (tgt := 28) hX dX8_singers_85 (by decide) ?_
          exact g_sub [1, 2, 3, 4, 0] rfl h
        · replace h := h.2 (Int.not_lt.mp c8)
          refine g_iload_n hX dX8_singers_70 3 rfl ?_
          refine g_iconst hX dX8_singers_71 ?_
          refine g_aload_n hX dX8_singers_72 0 rfl ?_
          refine g_getR hX sh_400 22 rfl fl_X8_72 dX8_singers_73 ?_
          refine g_iload hX dX8_singers_76 4 rfl ?_
          refine g_iald hX sh_423 h3 (by decide) dX8_singers_78 ?_
          refine g_ishl hX dX8_singers_79 ?_
          refine g_ior hX dX8_singers_80 ?_
          refine g_istore_n (loc' := [(3, vi (gor x3 (gshl 1 (s.2 423 x4)))), (0, gR G 400), (1, vi x1), (2, vi x2), (4, vi x4)]) hX dX8_singers_81 (by decide) rfl ?_
          refine g_iinc (loc' := [(4, vi (x4 + 1)), (3, vi (gor x3 (gshl 1 (s.2 423 x4)))), (0, gR G 400), (1, vi x1), (2, vi x2)]) hX dX8_singers_82 4 rfl (by decide) rfl ?_
          refine g_goto (tgt := 28) hX dX8_singers_85 (by decide) ?_
          exact g_sub [2, 3, 4, 1, 0] rfl h
set_option maxRecDepth 100000 in
set_option maxHeartbeats 4000000 in
theorem c_X8_singers (l : Launch) {G : gG} (hG : gInj G) (s : gS) (x1 : Int) (x2 : Int) (p0 : gRg s) (p1 : rng x1) (p2 : rng x2) (p3 : 0 ≤ (s.1 400 21) ∧ (s.1 400 21) ≤ 60) : gMet l G yX8_singers cX8_singers 5 (some .int) 2 [gR G 400, vi x1, vi x2] s (gPi (fun v s' => (v = (gsingM s x1 x2) ∧ s' = s) ∧ gRg s')) := by
  refine gMet_of (plainFor_of_name (by decide)) hG (Nat.le_of_ble_eq_true rfl) (fun X hX hE => ?_)
  refine bk_X8_singers_0 hX hE s p0 x1 x2  ?_
  refine ⟨p1, fun a1 => ⟨by unfold gsingM; rw [if_neg (by omega)], rfl⟩, fun a1 => ⟨p2, fun a2 => ?_, fun a2 => ⟨by unfold gsingM; rw [if_neg (by omega)], rfl⟩⟩⟩
  have hM : gsingM s x1 x2 = gsing s.2 423 424 425 426 x1 x2 (s.1 400 21) := if_pos ⟨a1, a2⟩
  refine gloop (α := Int) (hi := s.1 400 21) (fun i b => 0 ≤ i ∧ b = gsing s.2 423 424 425 426 x1 x2 i) (fun i b => gWL X G s 28 [(0, gR G 400), (1, vi x1), (2, vi x2), (3, vi b), (4, vi i)] []) ?_ ?_ 0 0 p3.1 ⟨by omega, rfl⟩
  · intro i b hi ⟨h0, hb⟩ next
    have hstep : gsing s.2 423 424 425 426 x1 x2 (i + 1) = if s.2 424 i = x1 ∧ s.2 425 i ≤ x2 ∧ x2 ≤ s.2 426 i then gor b (gshl 1 (s.2 423 i)) else b := by
      unfold gsing; rw [giter_s _ _ h0, hb]; rfl
    refine bk_X8_singers_28 hX hE s p0 x1 x2 b i ⟨rng_of (by omega) (by omega), fun h => by omega, fun _ => ⟨by omega, p1, fun h => next _ ⟨by omega, ?_⟩, fun h => ⟨p2, fun h2 => next _ ⟨by omega, ?_⟩, fun h2 => ⟨fun h3 => next _ ⟨by omega, ?_⟩, fun h3 => next _ ⟨by omega, ?_⟩⟩⟩⟩⟩
    · rw [hstep, if_neg (by omega)]
    · rw [hstep, if_neg (by omega)]
    · rw [hstep, if_neg (by omega)]
    · rw [hstep, if_pos (by omega)]
  · intro b ⟨h0, hb⟩
    exact bk_X8_singers_28 hX hE s p0 x1 x2 b _ ⟨rng_of (by omega) (by omega), fun _ => ⟨hb.trans hM.symm, rfl⟩, fun h => by omega⟩
set_option maxRecDepth 100000 in
set_option maxHeartbeats 4000000 in
theorem bk_X8_may_0 {X : gX} {G : gG} (hX : gOk X G cX8_may 4 RX8 (some .int) 3) {Q : Int → gS → Prop} (hE : gEnd X G (gPi (fun v s' => Q v s' ∧ gRg s'))) (s : gS) (hs : gRg s) (x1 : Int) (x2 : Int) (x3 : Int)  (h : (rng x1) ∧ ((¬ (0 ≤ x1 ∧ x1 ≤ 29) → Q (-1) s) ∧ (0 ≤ x1 ∧ x1 ≤ 29 → (rng x2) ∧ ((¬ (0 ≤ x2 ∧ x2 ≤ 9) → Q (-1) s) ∧ (0 ≤ x2 ∧ x2 ≤ 9 → (rng x3) ∧ ((0 ≤ x3 ∧ x3 ≤ 1000 → (0 ≤ (s.1 400 21) ∧ (s.1 400 21) ≤ 60) ∧ Q (gand (gshr (gsingM s x2 x3) x1) 1) s) ∧ (¬ (0 ≤ x3 ∧ x3 ≤ 1000) → Q (-1) s))))))) : gWL X G s 0 [(0, gR G 400), (1, vi x1), (2, vi x2), (3, vi x3)] [] := by
  refine g_iload_n hX dX8_may_0 1 rfl ?_
  refine g_iconst hX dX8_may_1 ?_
  refine g_bipush hX dX8_may_2 rfl ?_
  obtain ⟨h1, h⟩ := h
  refine g_cSf (As := [vi x1, vi 0, vi 29]) hX (fun l => c_X8_isIn l hX.inj s x1 0 29 hs h1 (by unfold rng; omega) (by unfold rng; omega)) cv_X8_102 (by decide) rfl (Nat.le_of_ble_eq_true rfl) dX8_may_4 rfl (fun g2 => ?_)
  refine g_ifeq (tgt := 31) hX (gb_rng _) dX8_may_7 (by decide) (fun c3 => ?_) (fun c3 => ?_)
  · replace h := h.1 (gb_eq0.mp c3)
    refine g_iconst hX dX8_may_31 ?_
    exact g_iret hX hE dX8_may_32 ⟨h, hs⟩
  · replace h := h.2 (gb_n0.mp c3)
    refine g_iload_n hX dX8_may_10 2 rfl ?_
    refine g_iconst hX dX8_may_11 ?_
    refine g_bipush hX dX8_may_12 rfl ?_
    obtain ⟨h4, h⟩ := h
    refine g_cSf (As := [vi x2, vi 0, vi 9]) hX (fun l => c_X8_isIn l hX.inj s x2 0 9 hs h4 (by unfold rng; omega) (by unfold rng; omega)) cv_X8_102 (by decide) rfl (Nat.le_of_ble_eq_true rfl) dX8_may_14 rfl (fun g5 => ?_)
    refine g_ifeq (tgt := 31) hX (gb_rng _) dX8_may_17 (by decide) (fun c6 => ?_) (fun c6 => ?_)
    · replace h := h.1 (gb_eq0.mp c6)
      refine g_iconst hX dX8_may_31 ?_
      exact g_iret hX hE dX8_may_32 ⟨h, hs⟩
    · replace h := h.2 (gb_n0.mp c6)
      refine g_iload_n hX dX8_may_20 3 rfl ?_
      refine g_iconst hX dX8_may_21 ?_
      refine g_sipush hX dX8_may_22 rfl ?_
      obtain ⟨h7, h⟩ := h
      refine g_cSf (As := [vi x3, vi 0, vi 1000]) hX (fun l => c_X8_isIn l hX.inj s x3 0 1000 hs h7 (by unfold rng; omega) (by unfold rng; omega)) cv_X8_102 (by decide) rfl (Nat.le_of_ble_eq_true rfl) dX8_may_25 rfl (fun g8 => ?_)
      refine g_ifne (tgt := 33) hX (gb_rng _) dX8_may_28 (by decide) (fun c9 => ?_) (fun c9 => ?_)
      · replace h := h.1 (gb_n0.mp c9)
        refine g_aload_n hX dX8_may_33 0 rfl ?_
        refine g_iload_n hX dX8_may_34 2 rfl ?_
        refine g_iload_n hX dX8_may_35 3 rfl ?_
        obtain ⟨h10, h⟩ := h
        refine g_cVf (As := [vi x2, vi x3]) hX (fun l => c_X8_singers l hX.inj s x2 x3 hs h4 h7 h10) sh_400 cv_X8_172 (by decide) rfl (Nat.le_of_ble_eq_true rfl) dX8_may_36 rfl (fun g11 => ?_)
        refine g_iload_n hX dX8_may_39 1 rfl ?_
        refine g_ishr hX dX8_may_40 ?_
        refine g_iconst hX dX8_may_41 ?_
        refine g_iand hX dX8_may_42 ?_
        exact g_iret hX hE dX8_may_43 ⟨h, hs⟩
      · replace h := h.2 (gb_eq0.mp (gnn c9))
        refine g_iconst hX dX8_may_31 ?_
        exact g_iret hX hE dX8_may_32 ⟨h, hs⟩
set_option maxRecDepth 100000 in
set_option maxHeartbeats 4000000 in
theorem c_X8_may (l : Launch) {G : gG} (hG : gInj G) (s : gS) (x1 : Int) (x2 : Int) (x3 : Int) (p0 : gRg s) (p1 : rng x1) (p2 : rng x2) (p3 : rng x3) (p4 : 0 ≤ (s.1 400 21) ∧ (s.1 400 21) ≤ 60) : gMet l G yX8_may cX8_may 4 (some .int) 3 [gR G 400, vi x1, vi x2, vi x3] s (gPi (fun v s' => (v = (if (0 ≤ x1 ∧ x1 ≤ 29) ∧ (0 ≤ x2 ∧ x2 ≤ 9) ∧ (0 ≤ x3 ∧ x3 ≤ 1000) then gand (gshr (gsingM s x2 x3) x1) 1 else -1) ∧ s' = s) ∧ gRg s')) := by
  refine gMet_of (plainFor_of_name (by decide)) hG (Nat.le_of_ble_eq_true rfl) (fun X hX hE => ?_)
  refine bk_X8_may_0 hX hE s p0 x1 x2 x3  ?_
  refine ⟨p1, fun a1 => ⟨by rw [if_neg (by omega)], rfl⟩, fun a1 => ⟨p2, fun a2 => ⟨by rw [if_neg (by omega)], rfl⟩, fun a2 => ⟨p3, fun a3 => ⟨p4, by rw [if_pos (by omega)], rfl⟩, fun a3 => ⟨by rw [if_neg (by omega)], rfl⟩⟩⟩⟩

