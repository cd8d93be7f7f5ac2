theorem fl_X7_11 : gFL RX7 11 7 0 := ⟨RX7, TX7, 8, tyX7, rfl, by decide, inG_X7, (gm_1 222 rfl rfl), tyX7_ok, nmX7, fun h => absurd h (by decide)⟩
theorem fl_X7_18 : gFL RX7 18 7 1 := ⟨RX7, TX7, 8, tyX7, rfl, by decide, inG_X7, (gm_1 223 rfl rfl), tyX7_ok, nmX7, fun h => absurd h (by decide)⟩
theorem fl_X7_26 : gFL RX7 26 7 2 := ⟨RX7, TX7, 8, tyX7, rfl, by decide, inG_X7, (gm_1 224 rfl rfl), tyX7_ok, nmX7, fun h => absurd h (by decide)⟩
theorem fl_X7_33 : gFL RX7 33 7 3 := ⟨RX7, TX7, 8, tyX7, rfl, by decide, inG_X7, (gm_1 225 rfl rfl), tyX7_ok, nmX7, fun h => absurd h (by decide)⟩
theorem fl_X7_66 : gFL RX7 66 3 2 := ⟨RX3, TX3, 3, tyX3, rfl, by decide, inG_X3, (gm_1 32 rfl rfl), tyX3_ok, nmX3, fun _ => rfl⟩
theorem fl_X7_81 : gFL RX7 81 4 1 := ⟨RX4, TX4, 3, tyX4, rfl, by decide, inG_X4, (gm_1 53 rfl rfl), tyX4_ok, nmX4, fun _ => rfl⟩
theorem fl_X7_93 : gFL RX7 93 0 5 := ⟨RX0, TX0, 13, tyX0, rfl, by decide, inG_X0, (gm_1 108 rfl rfl), tyX0_ok, nmX0, fun _ => rfl⟩
theorem fl_X7_96 : gFL RX7 96 0 4 := ⟨RX0, TX0, 13, tyX0, rfl, by decide, inG_X0, (gm_1 106 rfl rfl), tyX0_ok, nmX0, fun _ => rfl⟩
theorem fl_X7_97 : gFL RX7 97 0 0 := ⟨RX0, TX0, 13, tyX0, rfl, by decide, inG_X0, (gm_1 98 rfl rfl), tyX0_ok, nmX0, fun h => absurd h (by decide)⟩
theorem fl_X7_100 : gFL RX7 100 0 1 := ⟨RX0, TX0, 13, tyX0, rfl, by decide, inG_X0, (gm_1 100 rfl rfl), tyX0_ok, nmX0, fun h => absurd h (by decide)⟩
theorem fl_X7_103 : gFL RX7 103 0 3 := ⟨RX0, TX0, 13, tyX0, rfl, by decide, inG_X0, (gm_1 104 rfl rfl), tyX0_ok, nmX0, fun h => absurd h (by decide)⟩
theorem fl_X7_107 : gFL RX7 107 0 2 := ⟨RX0, TX0, 13, tyX0, rfl, by decide, inG_X0, (gm_1 102 rfl rfl), tyX0_ok, nmX0, fun h => absurd h (by decide)⟩
theorem fl_X7_110 : gFL RX7 110 0 6 := ⟨RX0, TX0, 13, tyX0, rfl, by decide, inG_X0, (gm_1 110 rfl rfl), tyX0_ok, nmX0, fun _ => rfl⟩
theorem fl_X7_113 : gFL RX7 113 0 7 := ⟨RX0, TX0, 13, tyX0, rfl, by decide, inG_X0, (gm_1 112 rfl rfl), tyX0_ok, nmX0, fun _ => rfl⟩
theorem fl_X7_173 : gFL RX7 173 4 2 := ⟨RX4, TX4, 3, tyX4, rfl, by decide, inG_X4, (gm_1 55 rfl rfl), tyX4_ok, nmX4, fun _ => rfl⟩
theorem fl_X7_176 : gFL RX7 176 0 8 := ⟨RX0, TX0, 13, tyX0, rfl, by decide, inG_X0, (gm_1 114 rfl rfl), tyX0_ok, nmX0, fun _ => rfl⟩
theorem cv_X7_70 : gCV RX7 70 yX0_forget cX0_forget 1 none 0 0 := ⟨TX0, 13, rfl, (gm_2 14 rfl rfl), (gm_2 15 rfl rfl), (gm_2 16 rfl rfl), (gm_1 5 rfl rfl), (gm_2 17 rfl rfl), ⟨by decide, by decide, by decide +kernel⟩, by decide⟩
theorem cv_X7_73 : gCV RX7 73 yX3_addNote cX3_addNote 3 (some .int) 2 3 := ⟨TX3, 3, rfl, (gm_2 18 rfl rfl), (gm_2 19 rfl rfl), (gm_2 20 rfl rfl), (gm_1 2 rfl rfl), (gm_2 21 rfl rfl), ⟨by decide, by decide, by decide +kernel⟩, by decide⟩
theorem cv_X7_77 : gCV RX7 77 yX4_startAnew cX4_startAnew 3 (some .int) 1 4 := ⟨TX4, 3, rfl, (gm_2 26 rfl rfl), (gm_2 27 rfl rfl), (gm_2 28 rfl rfl), (gm_1 3 rfl rfl), (gm_2 29 rfl rfl), ⟨by decide, by decide, by decide +kernel⟩, by decide⟩
theorem cv_X7_82 : gCV RX7 82 yX4_addReadings cX4_addReadings 4 (some .int) 2 4 := ⟨TX4, 3, rfl, (gm_2 34 rfl rfl), (gm_2 35 rfl rfl), (gm_2 36 rfl rfl), (gm_1 3 rfl rfl), (gm_2 37 rfl rfl), ⟨by decide, by decide, by decide +kernel⟩, by decide⟩
theorem cv_X7_85 : gCV RX7 85 yX1_change cX1_change 6 none 5 1 := ⟨TX1, 5, rfl, (gm_2 42 rfl rfl), (gm_2 43 rfl rfl), (gm_2 44 rfl rfl), (gm_1 4 rfl rfl), (gm_2 45 rfl rfl), ⟨by decide, by decide, by decide +kernel⟩, by decide⟩
theorem cv_X7_89 : gCV RX7 89 yX7_hasLaying cX7_hasLaying 4 (some .boolean) 1 7 := ⟨TX7, 8, rfl, (gm_2 50 rfl rfl), (gm_2 52 rfl rfl), (gm_s 0 rfl rfl), (gm_1 1 rfl rfl), (gm_2 53 rfl rfl), ⟨by decide, by decide, by decide +kernel⟩, by decide⟩
theorem cv_X7_179 : gCV RX7 179 yX0_find cX0_find 7 none 3 0 := ⟨TX0, 13, rfl, (gm_2 54 rfl rfl), (gm_2 55 rfl rfl), (gm_2 56 rfl rfl), (gm_1 5 rfl rfl), (gm_2 57 rfl rfl), ⟨by decide, by decide, by decide +kernel⟩, by decide⟩
theorem ldc_X7_106 : Cond.constant RX7 106 (-100000) ∈ gAll := (gm_2 120 rfl rfl)
/-! ===== pieces, recordings, rules and layings: the calls ===== -/
def gNote (u : gS) (k x b : Int) : gS := gpI (gpA (gpA u (k + 10) (u.1 k 2) x) (k + 20) (u.1 k 2) b) k 2 (u.1 k 2 + 1)
def cV (s : gS) : Prop := gMs s ∧ (∀ p : Int, 0 ≤ p → p < 6 → gPc s (100 + p)) ∧ ∀ r : Int, 0 ≤ r → r < 10 → gRd s (130 + r) ∧ (0 ≤ s.1 (130 + r) 2 ∧ s.1 (130 + r) 2 < 6)
def cCa (s : gS) : Prop := s.1 4 8 = -1 ∨ ((0 ≤ s.1 4 8 ∧ s.1 4 8 ≤ 9) ∧ gLaid s (100 + s.1 (130 + s.1 4 8) 2) (130 + s.1 4 8))
def chas (s t : gS) (r : Int) : Prop := (∀ (q : Int) (j : Nat), q ≠ 4 → t.1 q j = s.1 q j) ∧ t.1 4 8 = r ∧ (∀ q : Int, ¬ (9 ≤ q ∧ q ≤ 12) → ¬ (14 ≤ q ∧ q ≤ 16) → ¬ (200 ≤ q ∧ q < 225) → t.2 q = s.2 q) ∧ gLaid t (100 + s.1 (130 + r) 2) (130 + r)
theorem gLaid_congr {t t' : gS} {k1 k2 : Int} (h : gLaid t k1 k2) (h3 : t'.1 3 = t.1 3) (h4 : t'.1 4 4 = t.1 4 4) (h5 : t'.1 4 5 = t.1 4 5) (h6 : t'.1 4 6 = t.1 4 6) (h7 : t'.1 4 7 = t.1 4 7) (hk1 : t'.1 k1 2 = t.1 k1 2) (hk2 : t'.1 k2 1 = t.1 k2 1) (e1 : t'.2 (k2 + 10) = t.2 (k2 + 10)) (e2 : t'.2 (k1 + 10) = t.2 (k1 + 10)) (e3 : t'.2 (k1 + 20) = t.2 (k1 + 20)) (e9 : t'.2 9 = t.2 9) (e10 : t'.2 10 = t.2 10) (e11 : t'.2 11 = t.2 11) (e12 : t'.2 12 = t.2 12) : gLaid t' k1 k2 := by
  unfold gLaid
  rw [h3, h4, h5, h6, h7, hk1, hk2, e1, e2, e3, e9, e10, e11, e12]
  exact h
theorem gLaid_8 {t : gS} {k1 k2 r : Int} (h : gLaid t k1 k2) : gLaid (gpI t 4 8 r) k1 k2 :=
  gLaid_congr h (by funext j; exact gpI_nk (by decide)) (gpI_nj (by decide)) (gpI_nj (by decide)) (gpI_nj (by decide)) (gpI_nj (by decide)) (gpI_nj (by decide)) (gpI_nj (by decide)) rfl rfl rfl rfl rfl rfl rfl
theorem mfill_put (t : gS) (a z q x r v : Int) : gpA (gpA (gpA t 405 r v) 406 (a + (z + q)) x) 405 r (z + q + 1) = gpA (gpA t 406 (a + z + q) x) 405 r (z + (q + 1)) := by
  refine Prod.ext rfl ?_
  funext k j
  show (if k = 405 ∧ j = r then z + q + 1 else if k = 406 ∧ j = a + (z + q) then x else if k = 405 ∧ j = r then v else t.2 k j) = (if k = 405 ∧ j = r then z + (q + 1) else if k = 406 ∧ j = a + z + q then x else t.2 k j)
  by_cases h : k = 405 ∧ j = r
  · rw [if_pos h, if_pos h]; omega
  · rw [if_neg h, if_neg h, if_neg h]
    rw [show a + (z + q) = a + z + q by omega]
set_option maxRecDepth 100000 in
set_option maxHeartbeats 4000000 in
theorem bk_X7_note_0 {X : gX} {G : gG} (hX : gOk X G cX7_note 4 RX7 (some .int) 2) {Q : Int → gS → Prop} (hE : gEnd X G (gPi (fun v s' => Q v s' ∧ gRg s'))) (s : gS) (hs : gRg s) (x1 : Int) (x2 : Int) (x3 : Int)  (h : (rng x1) ∧ ((¬ (0 ≤ x1 ∧ x1 ≤ 5) → Q (-1) s) ∧ (0 ≤ x1 ∧ x1 ≤ 5 → (rng x2) ∧ ((0 ≤ x2 ∧ x2 ≤ 4800 → (rng x3) ∧ ((¬ (1 ≤ x3 ∧ x3 ≤ 8) → Q (-1) s) ∧ (1 ≤ x3 ∧ x3 ≤ 8 → (0 ≤ x1 ∧ x1 < 6) ∧ (((s.1 (100 + x1) 2) < 24 → (∀ s13 : gS, ((s13 = gpI s 4 8 (-1)) ∧ gRg s13) → (100 ≤ (100 + x1) ∧ (100 + x1) < 106) ∧ (0 ≤ (s13.1 (100 + x1) 2) ∧ (s13.1 (100 + x1) 2) < 24) ∧ (∀ (v20 : Int) (s18 : gS), ((v20 = (s13.1 (100 + x1) 2) + 1 ∧ s18 = gpI (gpA (gpA s13 ((100 + x1) + 10) (s13.1 (100 + x1) 2) x2) ((100 + x1) + 20) (s13.1 (100 + x1) 2) x3) (100 + x1) 2 ((s13.1 (100 + x1) 2) + 1)) ∧ gRg s18) → Q v20 s18))) ∧ (24 ≤ (s.1 (100 + x1) 2) → Q (-1) s))))) ∧ (¬ (0 ≤ x2 ∧ x2 ≤ 4800) → Q (-1) s))))) : gWL X G s 0 [(0, gR G 0), (1, vi x1), (2, vi x2), (3, vi x3)] [] := by
  refine g_iload_n hX dX7_note_0 1 rfl ?_
  refine g_iconst hX dX7_note_1 ?_
  refine g_iconst hX dX7_note_2 ?_
  obtain ⟨h1, h⟩ := h
  refine g_cSf (As := [vi x1, vi 0, vi 5]) hX (fun l => c_X7_isWithin l hX.inj s x1 0 5 hs h1 (by unfold rng; omega) (by unfold rng; omega)) cv_X7_62 (by decide) rfl (Nat.le_of_ble_eq_true rfl) dX7_note_3 rfl (fun g2 => ?_)
  refine g_ifeq (tgt := 20) hX (gb_rng _) dX7_note_6 (by decide) (fun c3 => ?_) (fun c3 => ?_)
  · replace h := h.1 (gb_eq0.mp c3)
    refine g_iconst hX dX7_note_20 ?_
    exact g_iret hX hE dX7_note_21 ⟨h, hs⟩
  · replace h := h.2 (gb_n0.mp c3)
    refine g_iload_n hX dX7_note_9 2 rfl ?_
    refine g_iconst hX dX7_note_10 ?_
    refine g_sipush hX dX7_note_11 rfl ?_
    obtain ⟨h4, h⟩ := h
    refine g_cSf (As := [vi x2, vi 0, vi 4800]) hX (fun l => c_X7_isWithin l hX.inj s x2 0 4800 hs h4 (by unfold rng; omega) (by unfold rng; omega)) cv_X7_62 (by decide) rfl (Nat.le_of_ble_eq_true rfl) dX7_note_14 rfl (fun g5 => ?_)
    refine g_ifne (tgt := 22) hX (gb_rng _) dX7_note_17 (by decide) (fun c6 => ?_) (fun c6 => ?_)
    · replace h := h.1 (gb_n0.mp c6)
      refine g_iload_n hX dX7_note_22 3 rfl ?_
      refine g_iconst hX dX7_note_23 ?_
      refine g_bipush hX dX7_note_24 rfl ?_
      obtain ⟨h7, h⟩ := h
      refine g_cSf (As := [vi x3, vi 1, vi 8]) hX (fun l => c_X7_isWithin l hX.inj s x3 1 8 hs h7 (by unfold rng; omega) (by unfold rng; omega)) cv_X7_62 (by decide) rfl (Nat.le_of_ble_eq_true rfl) dX7_note_26 rfl (fun g8 => ?_)
      refine g_ifeq (tgt := 46) hX (gb_rng _) dX7_note_29 (by decide) (fun c9 => ?_) (fun c9 => ?_)
      · replace h := h.1 (gb_eq0.mp c9)
        refine g_iconst hX dX7_note_46 ?_
        exact g_iret hX hE dX7_note_47 ⟨h, hs⟩
      · replace h := h.2 (gb_n0.mp c9)
        refine g_aload_n hX dX7_note_32 0 rfl ?_
        refine g_getR hX sh_0 0 rfl fl_X7_11 dX7_note_33 ?_
        refine g_iload_n hX dX7_note_36 1 rfl ?_
        obtain ⟨h10, h⟩ := h
        have k11 := h10
        refine g_aald (kd := 2) (q := (100 + x1)) hX sh_1 rfl rfl h10 (by decide) (by show 100 + ((x1 : Int).toNat : Int) = _; omega) dX7_note_37 ?_
        refine g_getI hX (sh_piece (by omega) (by omega)) 2 rfl fl_X7_66 dX7_note_38 ?_
        refine g_bipush hX dX7_note_41 rfl ?_
        refine g_iclt (tgt := 48) hX (hs.1 _ _) (by unfold rng; omega) dX7_note_43 (by decide) (fun c12 => ?_) (fun c12 => ?_)
        · replace h := h.1 c12
          refine g_aload_n hX dX7_note_48 0 rfl ?_
          refine g_getR hX sh_0 3 rfl fl_X7_33 dX7_note_49 ?_
          refine g_cVu (As := []) hX (fun l => c_X0_forget l hX.inj s  hs) sh_4 cv_X7_70 (by decide) rfl (Nat.le_of_ble_eq_true rfl) dX7_note_52 rfl (fun s13 q14 => ?_)
          replace h := h s13 q14
          have rs13 : gRg s13 := q14.2
          refine g_aload_n hX dX7_note_55 0 rfl ?_
          refine g_getR hX sh_0 0 rfl fl_X7_11 dX7_note_56 ?_
          refine g_iload_n hX dX7_note_59 1 rfl ?_
          have k15 := h10
          refine g_aald (kd := 2) (q := (100 + x1)) hX sh_1 rfl rfl h10 (by decide) (by show 100 + ((x1 : Int).toNat : Int) = _; omega) dX7_note_60 ?_
          refine g_iload_n hX dX7_note_61 2 rfl ?_
          refine g_iload_n hX dX7_note_62 3 rfl ?_
          obtain ⟨h16, h⟩ := h
          obtain ⟨h17, h⟩ := h
          refine g_cVr (As := [vi x2, vi x3]) hX (fun l => c_X3_addNote l hX.inj s13 (100 + x1) x2 x3 rs13 h4 h7 h16 h17) (sh_piece (by omega) (by omega)) cv_X7_73 (by decide) rfl (Nat.le_of_ble_eq_true rfl) dX7_note_63 rfl (fun v20 s18 q19 => ?_)
          replace h := h v20 s18 q19
          have rs18 : gRg s18 := q19.2
          exact g_iret hX hE dX7_note_66 ⟨h, rs18⟩
        · replace h := h.2 (Int.not_lt.mp c12)
          refine g_iconst hX dX7_note_46 ?_
          exact g_iret hX hE dX7_note_47 ⟨h, hs⟩
    · replace h := h.2 (gb_eq0.mp (gnn c6))
      refine g_iconst hX dX7_note_20 ?_
      exact g_iret hX hE dX7_note_21 ⟨h, hs⟩
set_option maxRecDepth 100000 in
set_option maxHeartbeats 4000000 in
theorem c_X7_note (l : Launch) {G : gG} (hG : gInj G) (s : gS) (x1 : Int) (x2 : Int) (x3 : Int) (p0 : gRg s) (p1 : rng x1) (p2 : rng x2) (p3 : rng x3) (p4 : ∀ p : Int, 0 ≤ p → p < 6 → 0 ≤ s.1 (100 + p) 2 ∧ s.1 (100 + p) 2 ≤ 24) : gMet l G yX7_note cX7_note 4 (some .int) 2 [gR G 0, vi x1, vi x2, vi x3] s (gPi (fun v s' => (if (0 ≤ x1 ∧ x1 ≤ 5) ∧ (0 ≤ x2 ∧ x2 ≤ 4800) ∧ (1 ≤ x3 ∧ x3 ≤ 8) ∧ s.1 (100 + x1) 2 < 24 then v = s.1 (100 + x1) 2 + 1 ∧ s' = gNote (gpI s 4 8 (-1)) (100 + x1) x2 x3 else v = -1 ∧ s' = s) ∧ gRg s')) := by
  refine gMet_of (plainFor_of_name (by decide)) hG (Nat.le_of_ble_eq_true rfl) (fun X hX hE => ?_)
  refine bk_X7_note_0 hX hE s p0 x1 x2 x3  ?_
  refine ⟨p1, fun a => ?_, fun a => ⟨p2, fun b => ⟨p3, fun c => ?_, fun c => ⟨by omega, fun d => fun u hu => ⟨by omega, ?_, fun v w hw => ?_⟩, fun d => ?_⟩⟩, fun b => ?_⟩⟩
  any_goals (rw [if_neg (by omega)]; exact ⟨rfl, rfl⟩)
  · have hsz := p4 x1 (by omega) (by omega)
    obtain ⟨rfl, -⟩ := hu
    rw [gpI_nj (by decide)]
    omega
  · obtain ⟨rfl, -⟩ := hu
    have e : (gpI s 4 8 (-1)).1 (100 + x1) 2 = s.1 (100 + x1) 2 := gpI_nj (by decide)
    rw [if_pos (by omega)]
    exact ⟨by rw [hw.1.1, e], hw.1.2⟩
set_option maxRecDepth 100000 in
set_option maxHeartbeats 4000000 in
theorem bk_X7_record_0 {X : gX} {G : gG} (hX : gOk X G cX7_record 3 RX7 (some .int) 2) {Q : Int → gS → Prop} (hE : gEnd X G (gPi (fun v s' => Q v s' ∧ gRg s'))) (s : gS) (hs : gRg s) (x1 : Int) (x2 : Int)  (h : (rng x1) ∧ ((¬ (0 ≤ x1 ∧ x1 ≤ 9) → Q (-1) s) ∧ (0 ≤ x1 ∧ x1 ≤ 9 → (rng x2) ∧ ((0 ≤ x2 ∧ x2 ≤ 5 → (∀ s7 : gS, ((s7 = gpI s 4 8 (-1)) ∧ gRg s7) → (0 ≤ x1 ∧ x1 < 10) ∧ (130 ≤ (130 + x1) ∧ (130 + x1) < 140) ∧ (∀ (v14 : Int) (s12 : gS), ((v14 = (s7.1 (130 + x1) 1) ∧ s12 = gpI (gpI s7 (130 + x1) 1 0) (130 + x1) 2 x2) ∧ gRg s12) → Q v14 s12))) ∧ (¬ (0 ≤ x2 ∧ x2 ≤ 5) → Q (-1) s))))) : gWL X G s 0 [(0, gR G 0), (1, vi x1), (2, vi x2)] [] := by
  refine g_iload_n hX dX7_record_0 1 rfl ?_
  refine g_iconst hX dX7_record_1 ?_
  refine g_bipush hX dX7_record_2 rfl ?_
  obtain ⟨h1, h⟩ := h
  refine g_cSf (As := [vi x1, vi 0, vi 9]) hX (fun l => c_X7_isWithin l hX.inj s x1 0 9 hs h1 (by unfold rng; omega) (by unfold rng; omega)) cv_X7_62 (by decide) rfl (Nat.le_of_ble_eq_true rfl) dX7_record_4 rfl (fun g2 => ?_)
  refine g_ifeq (tgt := 19) hX (gb_rng _) dX7_record_7 (by decide) (fun c3 => ?_) (fun c3 => ?_)
  · replace h := h.1 (gb_eq0.mp c3)
    refine g_iconst hX dX7_record_19 ?_
    exact g_iret hX hE dX7_record_20 ⟨h, hs⟩
  · replace h := h.2 (gb_n0.mp c3)
    refine g_iload_n hX dX7_record_10 2 rfl ?_
    refine g_iconst hX dX7_record_11 ?_
    refine g_iconst hX dX7_record_12 ?_
    obtain ⟨h4, h⟩ := h
    refine g_cSf (As := [vi x2, vi 0, vi 5]) hX (fun l => c_X7_isWithin l hX.inj s x2 0 5 hs h4 (by unfold rng; omega) (by unfold rng; omega)) cv_X7_62 (by decide) rfl (Nat.le_of_ble_eq_true rfl) dX7_record_13 rfl (fun g5 => ?_)
    refine g_ifne (tgt := 21) hX (gb_rng _) dX7_record_16 (by decide) (fun c6 => ?_) (fun c6 => ?_)
    · replace h := h.1 (gb_n0.mp c6)
      refine g_aload_n hX dX7_record_21 0 rfl ?_
      refine g_getR hX sh_0 3 rfl fl_X7_33 dX7_record_22 ?_
      refine g_cVu (As := []) hX (fun l => c_X0_forget l hX.inj s  hs) sh_4 cv_X7_70 (by decide) rfl (Nat.le_of_ble_eq_true rfl) dX7_record_25 rfl (fun s7 q8 => ?_)
      replace h := h s7 q8
      have rs7 : gRg s7 := q8.2
      refine g_aload_n hX dX7_record_28 0 rfl ?_
      refine g_getR hX sh_0 1 rfl fl_X7_18 dX7_record_29 ?_
      refine g_iload_n hX dX7_record_32 1 rfl ?_
      obtain ⟨h9, h⟩ := h
      have k10 := h9
      refine g_aald (kd := 3) (q := (130 + x1)) hX sh_2 rfl rfl h9 (by decide) (by show 130 + ((x1 : Int).toNat : Int) = _; omega) dX7_record_33 ?_
      refine g_iload_n hX dX7_record_34 2 rfl ?_
      obtain ⟨h11, h⟩ := h
      refine g_cVr (As := [vi x2]) hX (fun l => c_X4_startAnew l hX.inj s7 (130 + x1) x2 rs7 h4 h11) (sh_recording (by omega) (by omega)) cv_X7_77 (by decide) rfl (Nat.le_of_ble_eq_true rfl) dX7_record_35 rfl (fun v14 s12 q13 => ?_)
      replace h := h v14 s12 q13
      have rs12 : gRg s12 := q13.2
      exact g_iret hX hE dX7_record_38 ⟨h, rs12⟩
    · replace h := h.2 (gb_eq0.mp (gnn c6))
      refine g_iconst hX dX7_record_19 ?_
      exact g_iret hX hE dX7_record_20 ⟨h, hs⟩
set_option maxRecDepth 100000 in
set_option maxHeartbeats 4000000 in
theorem c_X7_record (l : Launch) {G : gG} (hG : gInj G) (s : gS) (x1 : Int) (x2 : Int) (p0 : gRg s) (p1 : rng x1) (p2 : rng x2) : gMet l G yX7_record cX7_record 3 (some .int) 2 [gR G 0, vi x1, vi x2] s (gPi (fun v s' => (if (0 ≤ x1 ∧ x1 ≤ 9) ∧ (0 ≤ x2 ∧ x2 ≤ 5) then v = s.1 (130 + x1) 1 ∧ s' = gpI (gpI (gpI s 4 8 (-1)) (130 + x1) 1 0) (130 + x1) 2 x2 else v = -1 ∧ s' = s) ∧ gRg s')) := by
  refine gMet_of (plainFor_of_name (by decide)) hG (Nat.le_of_ble_eq_true rfl) (fun X hX hE => ?_)
  refine bk_X7_record_0 hX hE s p0 x1 x2  ?_
  refine ⟨p1, fun a => ?_, fun a => ⟨p2, fun b => fun u hu => ⟨by omega, by omega, fun v w hw => ?_⟩, fun b => ?_⟩⟩
  any_goals (rw [if_neg (by omega)]; exact ⟨rfl, rfl⟩)
  obtain ⟨rfl, -⟩ := hu
  have e : (gpI s 4 8 (-1)).1 (130 + x1) 1 = s.1 (130 + x1) 1 := gpI_nj (by decide)
  rw [if_pos (by omega)]
  exact ⟨by rw [hw.1.1, e], hw.1.2⟩
set_option maxRecDepth 100000 in
set_option maxHeartbeats 4000000 in
theorem bk_X7_read_0 {X : gX} {G : gG} (hX : gOk X G cX7_read 4 RX7 (some .int) 2) {Q : Int → gS → Prop} (hE : gEnd X G (gPi (fun v s' => Q v s' ∧ gRg s'))) (s : gS) (hs : gRg s) (x1 : Int) (x2 : Int) (x3 : Int)  (h : (rng x1) ∧ ((¬ (0 ≤ x1 ∧ x1 ≤ 9) → Q (-1) s) ∧ (0 ≤ x1 ∧ x1 ≤ 9 → (rng x3) ∧ ((1 ≤ x3 ∧ x3 ≤ 60 → (rng x2) ∧ ((x2 = (-1) → (0 ≤ x1 ∧ x1 < 10) ∧ (rng ((s.1 (130 + x1) 1) + x3)) ∧ ((((s.1 (130 + x1) 1) + x3) ≤ 120 → (∀ s13 : gS, ((s13 = gpI s 4 8 (-1)) ∧ gRg s13) → (130 ≤ (130 + x1) ∧ (130 + x1) < 140) ∧ (1 ≤ x3 ∧ x3 ≤ 60) ∧ (0 ≤ (s13.1 (130 + x1) 1) ∧ (s13.1 (130 + x1) 1) + x3 ≤ 120) ∧ (∀ (v21 : Int) (s19 : gS), ((v21 = (s13.1 (130 + x1) 1) + x3 ∧ s19 = gpI (gfill s13 ((130 + x1) + 10) (s13.1 (130 + x1) 1) x2 x3) (130 + x1) 1 ((s13.1 (130 + x1) 1) + x3)) ∧ gRg s19) → Q v21 s19))) ∧ (120 < ((s.1 (130 + x1) 1) + x3) → Q (-1) s))) ∧ (¬ (x2 = (-1)) → ((0 ≤ x2 ∧ x2 ≤ 4800 → (0 ≤ x1 ∧ x1 < 10) ∧ (rng ((s.1 (130 + x1) 1) + x3)) ∧ ((((s.1 (130 + x1) 1) + x3) ≤ 120 → (∀ s28 : gS, ((s28 = gpI s 4 8 (-1)) ∧ gRg s28) → (130 ≤ (130 + x1) ∧ (130 + x1) < 140) ∧ (1 ≤ x3 ∧ x3 ≤ 60) ∧ (0 ≤ (s28.1 (130 + x1) 1) ∧ (s28.1 (130 + x1) 1) + x3 ≤ 120) ∧ (∀ (v36 : Int) (s34 : gS), ((v36 = (s28.1 (130 + x1) 1) + x3 ∧ s34 = gpI (gfill s28 ((130 + x1) + 10) (s28.1 (130 + x1) 1) x2 x3) (130 + x1) 1 ((s28.1 (130 + x1) 1) + x3)) ∧ gRg s34) → Q v36 s34))) ∧ (120 < ((s.1 (130 + x1) 1) + x3) → Q (-1) s))) ∧ (¬ (0 ≤ x2 ∧ x2 ≤ 4800) → Q (-1) s))))) ∧ (¬ (1 ≤ x3 ∧ x3 ≤ 60) → Q (-1) s))))) : gWL X G s 0 [(0, gR G 0), (1, vi x1), (2, vi x2), (3, vi x3)] [] := by
  refine g_iload_n hX dX7_read_0 1 rfl ?_
  refine g_iconst hX dX7_read_1 ?_
  refine g_bipush hX dX7_read_2 rfl ?_
  obtain ⟨h1, h⟩ := h
  refine g_cSf (As := [vi x1, vi 0, vi 9]) hX (fun l => c_X7_isWithin l hX.inj s x1 0 9 hs h1 (by unfold rng; omega) (by unfold rng; omega)) cv_X7_62 (by decide) rfl (Nat.le_of_ble_eq_true rfl) dX7_read_4 rfl (fun g2 => ?_)
  refine g_ifeq (tgt := 20) hX (gb_rng _) dX7_read_7 (by decide) (fun c3 => ?_) (fun c3 => ?_)
  · replace h := h.1 (gb_eq0.mp c3)
    refine g_iconst hX dX7_read_20 ?_
    exact g_iret hX hE dX7_read_21 ⟨h, hs⟩
  · replace h := h.2 (gb_n0.mp c3)
    refine g_iload_n hX dX7_read_10 3 rfl ?_
    refine g_iconst hX dX7_read_11 ?_
    refine g_bipush hX dX7_read_12 rfl ?_
    obtain ⟨h4, h⟩ := h
    refine g_cSf (As := [vi x3, vi 1, vi 60]) hX (fun l => c_X7_isWithin l hX.inj s x3 1 60 hs h4 (by unfold rng; omega) (by unfold rng; omega)) cv_X7_62 (by decide) rfl (Nat.le_of_ble_eq_true rfl) dX7_read_14 rfl (fun g5 => ?_)
    refine g_ifne (tgt := 22) hX (gb_rng _) dX7_read_17 (by decide) (fun c6 => ?_) (fun c6 => ?_)
    · replace h := h.1 (gb_n0.mp c6)
      refine g_iload_n hX dX7_read_22 2 rfl ?_
      refine g_iconst hX dX7_read_23 ?_
      obtain ⟨h7, h⟩ := h
      refine g_iceq (tgt := 40) hX h7 (by unfold rng; omega) dX7_read_24 (by decide) (fun c8 => ?_) (fun c8 => ?_)
      · replace h := h.1 c8
        refine g_aload_n hX dX7_read_40 0 rfl ?_
        refine g_getR hX sh_0 1 rfl fl_X7_18 dX7_read_41 ?_
        refine g_iload_n hX dX7_read_44 1 rfl ?_
        obtain ⟨h9, h⟩ := h
        have k10 := h9
        refine g_aald (kd := 3) (q := (130 + x1)) hX sh_2 rfl rfl h9 (by decide) (by show 130 + ((x1 : Int).toNat : Int) = _; omega) dX7_read_45 ?_
        refine g_getI hX (sh_recording (by omega) (by omega)) 1 rfl fl_X7_81 dX7_read_46 ?_
        refine g_iload_n hX dX7_read_49 3 rfl ?_
        refine g_iadd hX dX7_read_50 ?_
        refine g_bipush hX dX7_read_51 rfl ?_
        obtain ⟨h11, h⟩ := h
        refine g_icle (tgt := 58) hX h11 (by unfold rng; omega) dX7_read_53 (by decide) (fun c12 => ?_) (fun c12 => ?_)
        · replace h := h.1 c12
          refine g_aload_n hX dX7_read_58 0 rfl ?_
          refine g_getR hX sh_0 3 rfl fl_X7_33 dX7_read_59 ?_
          refine g_cVu (As := []) hX (fun l => c_X0_forget l hX.inj s  hs) sh_4 cv_X7_70 (by decide) rfl (Nat.le_of_ble_eq_true rfl) dX7_read_62 rfl (fun s13 q14 => ?_)
          replace h := h s13 q14
          have rs13 : gRg s13 := q14.2
          refine g_aload_n hX dX7_read_65 0 rfl ?_
          refine g_getR hX sh_0 1 rfl fl_X7_18 dX7_read_66 ?_
          refine g_iload_n hX dX7_read_69 1 rfl ?_
          have k15 := h9
          refine g_aald (kd := 3) (q := (130 + x1)) hX sh_2 rfl rfl h9 (by decide) (by show 130 + ((x1 : Int).toNat : Int) = _; omega) dX7_read_70 ?_
          refine g_iload_n hX dX7_read_71 2 rfl ?_
          refine g_iload_n hX dX7_read_72 3 rfl ?_
          obtain ⟨h16, h⟩ := h
          obtain ⟨h17, h⟩ := h
          obtain ⟨h18, h⟩ := h
          refine g_cVr (As := [vi x2, vi x3]) hX (fun l => c_X4_addReadings l hX.inj s13 (130 + x1) x2 x3 rs13 h7 h16 h17 h18) (sh_recording (by omega) (by omega)) cv_X7_82 (by decide) rfl (Nat.le_of_ble_eq_true rfl) dX7_read_73 rfl (fun v21 s19 q20 => ?_)
          replace h := h v21 s19 q20
          have rs19 : gRg s19 := q20.2
          exact g_iret hX hE dX7_read_76 ⟨h, rs19⟩
        · replace h := h.2 (Int.not_le.mp c12)
          refine g_iconst hX dX7_read_56 ?_
          exact g_iret hX hE dX7_read_57 ⟨h, hs⟩
      · replace h := h.2 c8
        refine g_iload_n hX dX7_read_27 2 rfl ?_
        refine g_iconst hX dX7_read_28 ?_
        refine g_sipush hX dX7_read_29 rfl ?_
        refine g_cSf (As := [vi x2, vi 0, vi 4800]) hX (fun l => c_X7_isWithin l hX.inj s x2 0 4800 hs h7 (by unfold rng; omega) (by unfold rng; omega)) cv_X7_62 (by decide) rfl (Nat.le_of_ble_eq_true rfl) dX7_read_32 rfl (fun g22 => ?_)
        refine g_ifne (tgt := 40) hX (gb_rng _) dX7_read_35 (by decide) (fun c23 => ?_) (fun c23 => ?_)
        · replace h := h.1 (gb_n0.mp c23)
          refine g_aload_n hX dX7_read_40 0 rfl ?_
          refine g_getR hX sh_0 1 rfl fl_X7_18 dX7_read_41 ?_
          refine g_iload_n hX dX7_read_44 1 rfl ?_
          obtain ⟨h24, h⟩ := h
          have k25 := h24
          refine g_aald (kd := 3) (q := (130 + x1)) hX sh_2 rfl rfl h24 (by decide) (by show 130 + ((x1 : Int).toNat : Int) = _; omega) dX7_read_45 ?_
          refine g_getI hX (sh_recording (by omega) (by omega)) 1 rfl fl_X7_81 dX7_read_46 ?_
          refine g_iload_n hX dX7_read_49 3 rfl ?_
          refine g_iadd hX dX7_read_50 ?_
          refine g_bipush hX dX7_read_51 rfl ?_
          obtain ⟨h26, h⟩ := h
          refine g_icle (tgt := 58) hX h26 (by unfold rng; omega) dX7_read_53 (by decide) (fun c27 => ?_) (fun c27 => ?_)
          · replace h := h.1 c27
            refine g_aload_n hX dX7_read_58 0 rfl ?_
            refine g_getR hX sh_0 3 rfl fl_X7_33 dX7_read_59 ?_
            refine g_cVu (As := []) hX (fun l => c_X0_forget l hX.inj s  hs) sh_4 cv_X7_70 (by decide) rfl (Nat.le_of_ble_eq_true rfl) dX7_read_62 rfl (fun s28 q29 => ?_)
            replace h := h s28 q29
            have rs28 : gRg s28 := q29.2
            refine g_aload_n hX dX7_read_65 0 rfl ?_
            refine g_getR hX sh_0 1 rfl fl_X7_18 dX7_read_66 ?_
            refine g_iload_n hX dX7_read_69 1 rfl ?_
            have k30 := h24
            refine g_aald (kd := 3) (q := (130 + x1)) hX sh_2 rfl rfl h24 (by decide) (by show 130 + ((x1 : Int).toNat : Int) = _; omega) dX7_read_70 ?_
            refine g_iload_n hX dX7_read_71 2 rfl ?_
            refine g_iload_n hX dX7_read_72 3 rfl ?_
            obtain ⟨h31, h⟩ := h
            obtain ⟨h32, h⟩ := h
            obtain ⟨h33, h⟩ := h
            refine g_cVr (As := [vi x2, vi x3]) hX (fun l => c_X4_addReadings l hX.inj s28 (130 + x1) x2 x3 rs28 h7 h31 h32 h33) (sh_recording (by omega) (by omega)) cv_X7_82 (by decide) rfl (Nat.le_of_ble_eq_true rfl) dX7_read_73 rfl (fun v36 s34 q35 => ?_)
            replace h := h v36 s34 q35
            have rs34 : gRg s34 := q35.2
            exact g_iret hX hE dX7_read_76 ⟨h, rs34⟩
          · replace h := h.2 (Int.not_le.mp c27)
            refine g_iconst hX dX7_read_56 ?_
            exact g_iret hX hE dX7_read_57 ⟨h, hs⟩
        · replace h := h.2 (gb_eq0.mp (gnn c23))
          refine g_iconst hX dX7_read_38 ?_
          exact g_iret hX hE dX7_read_39 ⟨h, hs⟩
    · replace h := h.2 (gb_eq0.mp (gnn c6))
      refine g_iconst hX dX7_read_20 ?_
      exact g_iret hX hE dX7_read_21 ⟨h, hs⟩
set_option maxRecDepth 100000 in
set_option maxHeartbeats 4000000 in
theorem c_X7_read (l : Launch) {G : gG} (hG : gInj G) (s : gS) (x1 : Int) (x2 : Int) (x3 : Int) (p0 : gRg s) (p1 : rng x1) (p2 : rng x2) (p3 : rng x3) (p4 : ∀ r : Int, 0 ≤ r → r < 10 → 0 ≤ s.1 (130 + r) 1 ∧ s.1 (130 + r) 1 ≤ 120) : gMet l G yX7_read cX7_read 4 (some .int) 2 [gR G 0, vi x1, vi x2, vi x3] s (gPi (fun v s' => (if (0 ≤ x1 ∧ x1 ≤ 9) ∧ (1 ≤ x3 ∧ x3 ≤ 60) ∧ (-1 ≤ x2 ∧ x2 ≤ 4800) ∧ s.1 (130 + x1) 1 + x3 ≤ 120 then v = s.1 (130 + x1) 1 + x3 ∧ s' = gpI (gfill (gpI s 4 8 (-1)) ((130 + x1) + 10) (s.1 (130 + x1) 1) x2 x3) (130 + x1) 1 (s.1 (130 + x1) 1 + x3) else v = -1 ∧ s' = s) ∧ gRg s')) := by
  refine gMet_of (plainFor_of_name (by decide)) hG (Nat.le_of_ble_eq_true rfl) (fun X hX hE => ?_)
  refine bk_X7_read_0 hX hE s p0 x1 x2 x3  ?_
  have hgo : (0 ≤ x1 ∧ x1 ≤ 9) → (1 ≤ x3 ∧ x3 ≤ 60) → (-1 ≤ x2 ∧ x2 ≤ 4800) → s.1 (130 + x1) 1 + x3 ≤ 120 → ∀ u : gS, ((u = gpI s 4 8 (-1)) ∧ gRg u) → (130 ≤ (130 + x1) ∧ (130 + x1) < 140) ∧ (1 ≤ x3 ∧ x3 ≤ 60) ∧ (0 ≤ (u.1 (130 + x1) 1) ∧ (u.1 (130 + x1) 1) + x3 ≤ 120) ∧ (∀ (v : Int) (w : gS), ((v = (u.1 (130 + x1) 1) + x3 ∧ w = gpI (gfill u ((130 + x1) + 10) (u.1 (130 + x1) 1) x2 x3) (130 + x1) 1 ((u.1 (130 + x1) 1) + x3)) ∧ gRg w) → if (0 ≤ x1 ∧ x1 ≤ 9) ∧ (1 ≤ x3 ∧ x3 ≤ 60) ∧ (-1 ≤ x2 ∧ x2 ≤ 4800) ∧ s.1 (130 + x1) 1 + x3 ≤ 120 then v = s.1 (130 + x1) 1 + x3 ∧ w = gpI (gfill (gpI s 4 8 (-1)) ((130 + x1) + 10) (s.1 (130 + x1) 1) x2 x3) (130 + x1) 1 (s.1 (130 + x1) 1 + x3) else v = -1 ∧ w = s) := by
    intro a b c d u hu
    obtain ⟨rfl, -⟩ := hu
    have e : (gpI s 4 8 (-1)).1 (130 + x1) 1 = s.1 (130 + x1) 1 := gpI_nj (by decide)
    have hsz := p4 x1 (by omega) (by omega)
    refine ⟨by omega, b, by omega, fun v w hw => ?_⟩
    rw [if_pos ⟨a, b, c, d⟩]
    rw [e] at hw
    exact hw.1
  have hsz : 0 ≤ x1 → x1 ≤ 9 → 0 ≤ s.1 (130 + x1) 1 ∧ s.1 (130 + x1) 1 ≤ 120 := fun a b => p4 x1 a (by omega)
  refine ⟨p1, fun a => ?_, fun a => ⟨p3, fun b => ⟨p2, fun c => ⟨by omega, ?_, fun d => hgo a b (by omega) d, fun d => ?_⟩, fun c => ⟨fun c2 => ⟨by omega, ?_, fun d => hgo a b (by omega) d, fun d => ?_⟩, fun c2 => ?_⟩⟩, fun b => ?_⟩⟩
  any_goals (rw [if_neg (by omega)]; exact ⟨rfl, rfl⟩)
  all_goals (have := hsz a.1 a.2; exact rng_of (by omega) (by omega))
set_option maxRecDepth 100000 in
set_option maxHeartbeats 4000000 in
theorem bk_X7_rules_0 {X : gX} {G : gG} (hX : gOk X G cX7_rules 6 RX7 (some .boolean) 2) {Q : Int → gS → Prop} (hE : gEnd X G (gPi (fun v s' => Q v s' ∧ gRg s'))) (s : gS) (hs : gRg s) (x1 : Int) (x2 : Int) (x3 : Int) (x4 : Int) (x5 : Int)  (h : (rng x1) ∧ ((¬ (1 ≤ x1 ∧ x1 ≤ 8) → Q 0 s) ∧ (1 ≤ x1 ∧ x1 ≤ 8 → (rng x2) ∧ ((¬ (0 ≤ x2 ∧ x2 ≤ 1000) → Q 0 s) ∧ (0 ≤ x2 ∧ x2 ≤ 1000 → (rng x3) ∧ ((0 ≤ x3 ∧ x3 ≤ 1000 → (rng x4) ∧ ((¬ (0 ≤ x4 ∧ x4 ≤ 10000) → Q 0 s) ∧ (0 ≤ x4 ∧ x4 ≤ 10000 → (rng x5) ∧ ((0 ≤ x5 ∧ x5 ≤ 1000 → (∀ s16 : gS, ((s16 = gpI s 4 8 (-1)) ∧ gRg s16) → (∀ s18 : gS, ((s18 = gpI (gpI (gpI (gpI (gpI s16 3 0 x1) 3 1 x2) 3 2 x3) 3 3 x4) 3 4 x5) ∧ gRg s18) → Q 1 s18))) ∧ (¬ (0 ≤ x5 ∧ x5 ≤ 1000) → Q 0 s))))) ∧ (¬ (0 ≤ x3 ∧ x3 ≤ 1000) → Q 0 s))))))) : gWL X G s 0 [(0, gR G 0), (1, vi x1), (2, vi x2), (3, vi x3), (4, vi x4), (5, vi x5)] [] := by
  refine g_iload_n hX dX7_rules_0 1 rfl ?_
  refine g_iconst hX dX7_rules_1 ?_
  refine g_bipush hX dX7_rules_2 rfl ?_
  obtain ⟨h1, h⟩ := h
  refine g_cSf (As := [vi x1, vi 1, vi 8]) hX (fun l => c_X7_isWithin l hX.inj s x1 1 8 hs h1 (by unfold rng; omega) (by unfold rng; omega)) cv_X7_62 (by decide) rfl (Nat.le_of_ble_eq_true rfl) dX7_rules_4 rfl (fun g2 => ?_)
  refine g_ifeq (tgt := 32) hX (gb_rng _) dX7_rules_7 (by decide) (fun c3 => ?_) (fun c3 => ?_)
  · replace h := h.1 (gb_eq0.mp c3)
    refine g_iconst hX dX7_rules_32 ?_
    exact g_zret hX hE (Or.inl rfl) dX7_rules_33 ⟨h, hs⟩
  · replace h := h.2 (gb_n0.mp c3)
    refine g_iload_n hX dX7_rules_10 2 rfl ?_
    refine g_iconst hX dX7_rules_11 ?_
    refine g_sipush hX dX7_rules_12 rfl ?_
    obtain ⟨h4, h⟩ := h
    refine g_cSf (As := [vi x2, vi 0, vi 1000]) hX (fun l => c_X7_isWithin l hX.inj s x2 0 1000 hs h4 (by unfold rng; omega) (by unfold rng; omega)) cv_X7_62 (by decide) rfl (Nat.le_of_ble_eq_true rfl) dX7_rules_15 rfl (fun g5 => ?_)
    refine g_ifeq (tgt := 32) hX (gb_rng _) dX7_rules_18 (by decide) (fun c6 => ?_) (fun c6 => ?_)
    · replace h := h.1 (gb_eq0.mp c6)
      refine g_iconst hX dX7_rules_32 ?_
      exact g_zret hX hE (Or.inl rfl) dX7_rules_33 ⟨h, hs⟩
    · replace h := h.2 (gb_n0.mp c6)
      refine g_iload_n hX dX7_rules_21 3 rfl ?_
      refine g_iconst hX dX7_rules_22 ?_
      refine g_sipush hX dX7_rules_23 rfl ?_
      obtain ⟨h7, h⟩ := h
      refine g_cSf (As := [vi x3, vi 0, vi 1000]) hX (fun l => c_X7_isWithin l hX.inj s x3 0 1000 hs h7 (by unfold rng; omega) (by unfold rng; omega)) cv_X7_62 (by decide) rfl (Nat.le_of_ble_eq_true rfl) dX7_rules_26 rfl (fun g8 => ?_)
      refine g_ifne (tgt := 34) hX (gb_rng _) dX7_rules_29 (by decide) (fun c9 => ?_) (fun c9 => ?_)
      · replace h := h.1 (gb_n0.mp c9)
        refine g_iload hX dX7_rules_34 4 rfl ?_
        refine g_iconst hX dX7_rules_36 ?_
        refine g_sipush hX dX7_rules_37 rfl ?_
        obtain ⟨h10, h⟩ := h
        refine g_cSf (As := [vi x4, vi 0, vi 10000]) hX (fun l => c_X7_isWithin l hX.inj s x4 0 10000 hs h10 (by unfold rng; omega) (by unfold rng; omega)) cv_X7_62 (by decide) rfl (Nat.le_of_ble_eq_true rfl) dX7_rules_40 rfl (fun g11 => ?_)
        refine g_ifeq (tgt := 58) hX (gb_rng _) dX7_rules_43 (by decide) (fun c12 => ?_) (fun c12 => ?_)
        · replace h := h.1 (gb_eq0.mp c12)
          refine g_iconst hX dX7_rules_58 ?_
          exact g_zret hX hE (Or.inl rfl) dX7_rules_59 ⟨h, hs⟩
        · replace h := h.2 (gb_n0.mp c12)
          refine g_iload hX dX7_rules_46 5 rfl ?_
          refine g_iconst hX dX7_rules_48 ?_
          refine g_sipush hX dX7_rules_49 rfl ?_
          obtain ⟨h13, h⟩ := h
          refine g_cSf (As := [vi x5, vi 0, vi 1000]) hX (fun l => c_X7_isWithin l hX.inj s x5 0 1000 hs h13 (by unfold rng; omega) (by unfold rng; omega)) cv_X7_62 (by decide) rfl (Nat.le_of_ble_eq_true rfl) dX7_rules_52 rfl (fun g14 => ?_)
          refine g_ifne (tgt := 60) hX (gb_rng _) dX7_rules_55 (by decide) (fun c15 => ?_) (fun c15 => ?_)
          · replace h := h.1 (gb_n0.mp c15)
            refine g_aload_n hX dX7_rules_60 0 rfl ?_
            refine g_getR hX sh_0 3 rfl fl_X7_33 dX7_rules_61 ?_
            refine g_cVu (As := []) hX (fun l => c_X0_forget l hX.inj s  hs) sh_4 cv_X7_70 (by decide) rfl (Nat.le_of_ble_eq_true rfl) dX7_rules_64 rfl (fun s16 q17 => ?_)
            replace h := h s16 q17
            have rs16 : gRg s16 := q17.2
            refine g_aload_n hX dX7_rules_67 0 rfl ?_
            refine g_getR hX sh_0 2 rfl fl_X7_26 dX7_rules_68 ?_
            refine g_iload_n hX dX7_rules_71 1 rfl ?_
            refine g_iload_n hX dX7_rules_72 2 rfl ?_
            refine g_iload_n hX dX7_rules_73 3 rfl ?_
            refine g_iload hX dX7_rules_74 4 rfl ?_
            refine g_iload hX dX7_rules_76 5 rfl ?_
            refine g_cVu (As := [vi x1, vi x2, vi x3, vi x4, vi x5]) hX (fun l => c_X1_change l hX.inj s16 x1 x2 x3 x4 x5 rs16 h1 h4 h7 h10 h13) sh_3 cv_X7_85 (by decide) rfl (Nat.le_of_ble_eq_true rfl) dX7_rules_78 rfl (fun s18 q19 => ?_)
            replace h := h s18 q19
            have rs18 : gRg s18 := q19.2
            refine g_iconst hX dX7_rules_81 ?_
            exact g_zret hX hE (Or.inr rfl) dX7_rules_82 ⟨h, rs18⟩
          · replace h := h.2 (gb_eq0.mp (gnn c15))
            refine g_iconst hX dX7_rules_58 ?_
            exact g_zret hX hE (Or.inl rfl) dX7_rules_59 ⟨h, hs⟩
      · replace h := h.2 (gb_eq0.mp (gnn c9))
        refine g_iconst hX dX7_rules_32 ?_
        exact g_zret hX hE (Or.inl rfl) dX7_rules_33 ⟨h, hs⟩
set_option maxRecDepth 100000 in
set_option maxHeartbeats 4000000 in
theorem c_X7_rules (l : Launch) {G : gG} (hG : gInj G) (s : gS) (x1 : Int) (x2 : Int) (x3 : Int) (x4 : Int) (x5 : Int) (p0 : gRg s) (p1 : rng x1) (p2 : rng x2) (p3 : rng x3) (p4 : rng x4) (p5 : rng x5) : gMet l G yX7_rules cX7_rules 6 (some .boolean) 2 [gR G 0, vi x1, vi x2, vi x3, vi x4, vi x5] s (gPi (fun v s' => (if (1 ≤ x1 ∧ x1 ≤ 8) ∧ (0 ≤ x2 ∧ x2 ≤ 1000) ∧ (0 ≤ x3 ∧ x3 ≤ 1000) ∧ (0 ≤ x4 ∧ x4 ≤ 10000) ∧ (0 ≤ x5 ∧ x5 ≤ 1000) then v = 1 ∧ s' = gpI (gpI (gpI (gpI (gpI (gpI s 4 8 (-1)) 3 0 x1) 3 1 x2) 3 2 x3) 3 3 x4) 3 4 x5 else v = 0 ∧ s' = s) ∧ gRg s')) := by
  refine gMet_of (plainFor_of_name (by decide)) hG (Nat.le_of_ble_eq_true rfl) (fun X hX hE => ?_)
  refine bk_X7_rules_0 hX hE s p0 x1 x2 x3 x4 x5  ?_
  refine ⟨p1, fun a => ?_, fun a => ⟨p2, fun b => ?_, fun b => ⟨p3, fun c => ⟨p4, fun d => ?_, fun d => ⟨p5, fun e => fun u hu w hw => ?_, fun e => ?_⟩⟩, fun c => ?_⟩⟩⟩
  any_goals (rw [if_neg (by omega)]; exact ⟨rfl, rfl⟩)
  rw [if_pos ⟨a, b, c, d, e⟩]
  obtain ⟨rfl, -⟩ := hu
  exact ⟨rfl, hw.1⟩
set_option maxRecDepth 100000 in
set_option maxHeartbeats 4000000 in
theorem bk_X7_hasLaying_0 {X : gX} {G : gG} (hX : gOk X G cX7_hasLaying 4 RX7 (some .boolean) 6) {Q : Int → gS → Prop} (hE : gEnd X G (gPi (fun v s' => Q v s' ∧ gRg s'))) (s : gS) (hs : gRg s) (x1 : Int)  (h : (rng x1) ∧ ((0 ≤ x1 ∧ x1 ≤ 9 → (0 ≤ x1 ∧ x1 < 10) ∧ (0 ≤ (s.1 (130 + x1) 2) ∧ (s.1 (130 + x1) 2) < 6) ∧ ((¬ (s.1 (100 + (s.1 (130 + x1) 2)) 2) = 0 → (((s.1 4 8) = x1 → Q 1 s) ∧ (¬ ((s.1 4 8) = x1) → (gMs s) ∧ (100 ≤ (100 + (s.1 (130 + x1) 2)) ∧ (100 + (s.1 (130 + x1) 2)) < 106) ∧ (130 ≤ (130 + x1) ∧ (130 + x1) < 140) ∧ (gPc s (100 + (s.1 (130 + x1) 2))) ∧ (gRd s (130 + x1)) ∧ (∀ s15 : gS, ((gfound s s15 (100 + (s.1 (130 + x1) 2)) (130 + x1)) ∧ gRg s15) → Q 1 (gpI s15 4 8 x1))))) ∧ ((s.1 (100 + (s.1 (130 + x1) 2)) 2) = 0 → Q 0 s))) ∧ (¬ (0 ≤ x1 ∧ x1 ≤ 9) → Q 0 s))) : gWL X G s 0 [(0, gR G 0), (1, vi x1)] [] := by
  refine g_iload_n hX dX7_hasLaying_0 1 rfl ?_
  refine g_iconst hX dX7_hasLaying_1 ?_
  refine g_bipush hX dX7_hasLaying_2 rfl ?_
  obtain ⟨h1, h⟩ := h
  refine g_cSf (As := [vi x1, vi 0, vi 9]) hX (fun l => c_X7_isWithin l hX.inj s x1 0 9 hs h1 (by unfold rng; omega) (by unfold rng; omega)) cv_X7_62 (by decide) rfl (Nat.le_of_ble_eq_true rfl) dX7_hasLaying_4 rfl (fun g2 => ?_)
  refine g_ifne (tgt := 12) hX (gb_rng _) dX7_hasLaying_7 (by decide) (fun c3 => ?_) (fun c3 => ?_)
  · replace h := h.1 (gb_n0.mp c3)
    refine g_aload_n hX dX7_hasLaying_12 0 rfl ?_
    refine g_getR hX sh_0 1 rfl fl_X7_18 dX7_hasLaying_13 ?_
    refine g_iload_n hX dX7_hasLaying_16 1 rfl ?_
    obtain ⟨h4, h⟩ := h
    have k5 := h4
    refine g_aald (kd := 3) (q := (130 + x1)) hX sh_2 rfl rfl h4 (by decide) (by show 130 + ((x1 : Int).toNat : Int) = _; omega) dX7_hasLaying_17 ?_
    refine g_astore_n (loc' := [(2, gR G (130 + x1)), (0, gR G 0), (1, vi x1)]) hX dX7_hasLaying_18 (by decide) rfl ?_
    refine g_aload_n hX dX7_hasLaying_19 1 rfl ?_
    refine g_getR hX sh_0 0 rfl fl_X7_11 dX7_hasLaying_20 ?_
    refine g_aload_n hX dX7_hasLaying_23 0 rfl ?_
    refine g_getI hX (sh_recording (by omega) (by omega)) 2 rfl fl_X7_173 dX7_hasLaying_24 ?_
    obtain ⟨h6, h⟩ := h
    have k7 := h6
    refine g_aald (kd := 2) (q := (100 + (s.1 (130 + x1) 2))) hX sh_1 rfl rfl h6 (by decide) (by show 100 + (((s.1 (130 + x1) 2) : Int).toNat : Int) = _; omega) dX7_hasLaying_27 ?_
    refine g_astore_n (loc' := [(3, gR G (100 + (s.1 (130 + x1) 2))), (2, gR G (130 + x1)), (0, gR G 0), (1, vi x1)]) hX dX7_hasLaying_28 (by decide) rfl ?_
    refine g_aload_n hX dX7_hasLaying_29 0 rfl ?_
    refine g_getI hX (sh_piece (by omega) (by omega)) 2 rfl fl_X7_66 dX7_hasLaying_30 ?_
    refine g_ifne (tgt := 38) hX (hs.1 _ _) dX7_hasLaying_33 (by decide) (fun c8 => ?_) (fun c8 => ?_)
    · replace h := h.1 c8
      refine g_aload_n hX dX7_hasLaying_38 2 rfl ?_
      refine g_getR hX sh_0 3 rfl fl_X7_33 dX7_hasLaying_39 ?_
      refine g_getI hX sh_4 8 rfl fl_X7_176 dX7_hasLaying_42 ?_
      refine g_iload_n hX dX7_hasLaying_45 3 rfl ?_
      refine g_iceq (tgt := 70) hX (hs.1 _ _) h1 dX7_hasLaying_46 (by decide) (fun c9 => ?_) (fun c9 => ?_)
      · replace h := h.1 c9
        refine g_iconst hX dX7_hasLaying_70 ?_
        exact g_zret hX hE (Or.inr rfl) dX7_hasLaying_71 ⟨h, hs⟩
      · replace h := h.2 c9
        refine g_aload_n hX dX7_hasLaying_49 2 rfl ?_
        refine g_getR hX sh_0 3 rfl fl_X7_33 dX7_hasLaying_50 ?_
        refine g_aload_n hX dX7_hasLaying_53 0 rfl ?_
        refine g_aload_n hX dX7_hasLaying_54 1 rfl ?_
        refine g_aload_n hX dX7_hasLaying_55 2 rfl ?_
        refine g_getR hX sh_0 2 rfl fl_X7_26 dX7_hasLaying_56 ?_
        obtain ⟨h10, h⟩ := h
        obtain ⟨h11, h⟩ := h
        obtain ⟨h12, h⟩ := h
        obtain ⟨h13, h⟩ := h
        obtain ⟨h14, h⟩ := h
        refine g_cVu (As := [gR G (100 + (s.1 (130 + x1) 2)), gR G (130 + x1), gR G 3]) hX (fun l => c_X0_find l hX.inj s (100 + (s.1 (130 + x1) 2)) (130 + x1) 3 hs h10 h11 h12 h13 h14) sh_4 cv_X7_179 (by decide) rfl (Nat.le_of_ble_eq_true rfl) dX7_hasLaying_59 rfl (fun s15 q16 => ?_)
        replace h := h s15 q16
        have rs15 : gRg s15 := q16.2
        refine g_aload_n hX dX7_hasLaying_62 2 rfl ?_
        refine g_getR hX sh_0 3 rfl fl_X7_33 dX7_hasLaying_63 ?_
        refine g_iload_n hX dX7_hasLaying_66 3 rfl ?_
        refine g_putI hX sh_4 8 rfl fl_X7_176 (fun _ _ _ e => by cases e; rfl) dX7_hasLaying_67 ?_
        refine g_iconst hX dX7_hasLaying_70 ?_
        exact g_zret hX hE (Or.inr rfl) dX7_hasLaying_71 ⟨h, (gRg_I rs15 h1)⟩
    · replace h := h.2 (gnn c8)
      refine g_iconst hX dX7_hasLaying_36 ?_
      exact g_zret hX hE (Or.inl rfl) dX7_hasLaying_37 ⟨h, hs⟩
  · replace h := h.2 (gb_eq0.mp (gnn c3))
    refine g_iconst hX dX7_hasLaying_10 ?_
    exact g_zret hX hE (Or.inl rfl) dX7_hasLaying_11 ⟨h, hs⟩
set_option maxRecDepth 100000 in
set_option maxHeartbeats 4000000 in
theorem c_X7_hasLaying (l : Launch) {G : gG} (hG : gInj G) (s : gS) (x1 : Int) (p0 : gRg s) (p1 : rng x1) (p2 : cV s) (p3 : cCa s) : gMet l G yX7_hasLaying cX7_hasLaying 4 (some .boolean) 6 [gR G 0, vi x1] s (gPi (fun v s' => ((((0 ≤ x1 ∧ x1 ≤ 9) ∧ ¬ s.1 (100 + s.1 (130 + x1) 2) 2 = 0) → v = 1 ∧ chas s s' x1) ∧ (¬ ((0 ≤ x1 ∧ x1 ≤ 9) ∧ ¬ s.1 (100 + s.1 (130 + x1) 2) 2 = 0) → v = 0 ∧ s' = s)) ∧ gRg s')) := by
  refine gMet_of (plainFor_of_name (by decide)) hG (Nat.le_of_ble_eq_true rfl) (fun X hX hE => ?_)
  refine bk_X7_hasLaying_0 hX hE s p0 x1  ?_
  obtain ⟨hms, hpc, hrd⟩ := p2
  refine ⟨p1, fun a => ⟨by omega, (hrd x1 (by omega) (by omega)).2, fun b => ⟨fun c => ⟨fun _ => ⟨rfl, fun _ _ _ => rfl, c, fun _ _ _ _ => rfl, ?_⟩, fun z => absurd ⟨a, b⟩ z⟩, fun c => ?_⟩, fun b => ⟨fun z => absurd b z.2, fun _ => ⟨rfl, rfl⟩⟩⟩, fun a => ⟨fun z => absurd z.1 a, fun _ => ⟨rfl, rfl⟩⟩⟩
  · rcases p3 with h | ⟨_, h⟩
    · omega
    · rw [c] at h; exact h
  · have hr := hrd x1 (by omega) (by omega)
    refine ⟨hms, by omega, by omega, hpc _ hr.2.1 hr.2.2, hr.1, fun u hu => ⟨fun _ => ⟨rfl, fun q j hq => ?_, gpI_eq, hu.1.2.2.1, gLaid_8 hu.1.2.2.2⟩, fun z => absurd ⟨a, b⟩ z⟩⟩
    rw [gpI_nk hq]; exact hu.1.1 q j hq
theorem chas_sz {s t : gS} {r : Int} (hV : cV s) (hr : 0 ≤ r ∧ r ≤ 9) (h : chas s t r) : t.1 4 4 = s.1 (100 + s.1 (130 + r) 2) 2 ∧ 0 ≤ t.1 4 4 ∧ t.1 4 4 ≤ 24 := by
  obtain ⟨h1, h2, h3, h4⟩ := h
  have hp := (hV.2.2 r hr.1 (by omega)).2
  have hc := (hV.2.1 _ hp.1 hp.2).1
  have e := h4.1
  rw [h1 _ 2 (by omega)] at e
  omega
set_option maxRecDepth 100000 in
set_option maxHeartbeats 4000000 in
theorem bk_X7_lay_0 {X : gX} {G : gG} (hX : gOk X G cX7_lay 2 RX7 (some .int) 7) {Q : Int → gS → Prop} (hE : gEnd X G (gPi (fun v s' => Q v s' ∧ gRg s'))) (s : gS) (hs : gRg s) (x1 : Int)  (h : (rng x1) ∧ (cV s) ∧ (cCa s) ∧ (∀ (v6 : Int) (s4 : gS), (((((0 ≤ x1 ∧ x1 ≤ 9) ∧ ¬ s.1 (100 + s.1 (130 + x1) 2) 2 = 0) → v6 = 1 ∧ chas s s4 x1) ∧ (¬ ((0 ≤ x1 ∧ x1 ≤ 9) ∧ ¬ s.1 (100 + s.1 (130 + x1) 2) 2 = 0) → v6 = 0 ∧ s4 = s)) ∧ gRg s4) → (rng v6) ∧ ((v6 = 0 → Q (-1) s4) ∧ (¬ (v6 = 0) → Q (s4.1 4 5) s4)))) : gWL X G s 0 [(0, gR G 0), (1, vi x1)] [] := by
  refine g_aload_n hX dX7_lay_0 0 rfl ?_
  refine g_iload_n hX dX7_lay_1 1 rfl ?_
  obtain ⟨h1, h⟩ := h
  obtain ⟨h2, h⟩ := h
  obtain ⟨h3, h⟩ := h
  refine g_cVr (As := [vi x1]) hX (fun l => c_X7_hasLaying l hX.inj s x1 hs h1 h2 h3) sh_0 cv_X7_89 (by decide) rfl (Nat.le_of_ble_eq_true rfl) dX7_lay_2 rfl (fun v6 s4 q5 => ?_)
  replace h := h v6 s4 q5
  have rs4 : gRg s4 := q5.2
  obtain ⟨h7, h⟩ := h
  refine g_ifeq (tgt := 18) hX h7 dX7_lay_5 (by decide) (fun c8 => ?_) (fun c8 => ?_)
  · replace h := h.1 c8
    refine g_iconst hX dX7_lay_18 ?_
    exact g_iret hX hE dX7_lay_19 ⟨h, rs4⟩
  · replace h := h.2 c8
    refine g_aload_n hX dX7_lay_8 0 rfl ?_
    refine g_getR hX sh_0 3 rfl fl_X7_33 dX7_lay_9 ?_
    refine g_getI hX sh_4 5 rfl fl_X7_93 dX7_lay_12 ?_
    refine g_goto (tgt := 19) hX dX7_lay_15 (by decide) ?_
    exact g_iret hX hE dX7_lay_19 ⟨h, rs4⟩
set_option maxRecDepth 100000 in
set_option maxHeartbeats 4000000 in
theorem c_X7_lay (l : Launch) {G : gG} (hG : gInj G) (s : gS) (x1 : Int) (p0 : gRg s) (p1 : rng x1) (p2 : cV s) (p3 : cCa s) : gMet l G yX7_lay cX7_lay 2 (some .int) 7 [gR G 0, vi x1] s (gPi (fun v s' => ((((0 ≤ x1 ∧ x1 ≤ 9) ∧ ¬ s.1 (100 + s.1 (130 + x1) 2) 2 = 0) → v = s'.1 4 5 ∧ chas s s' x1) ∧ (¬ ((0 ≤ x1 ∧ x1 ≤ 9) ∧ ¬ s.1 (100 + s.1 (130 + x1) 2) 2 = 0) → v = -1 ∧ s' = s)) ∧ gRg s')) := by
  refine gMet_of (plainFor_of_name (by decide)) hG (Nat.le_of_ble_eq_true rfl) (fun X hX hE => ?_)
  refine bk_X7_lay_0 hX hE s p0 x1  ?_
  refine ⟨p1, p2, p3, fun v u hq => ?_⟩
  by_cases hc : ((0 ≤ x1 ∧ x1 ≤ 9) ∧ ¬ s.1 (100 + s.1 (130 + x1) 2) 2 = 0)
  · obtain ⟨rfl, hh⟩ := hq.1.1 hc
    exact ⟨rng_of (by omega) (by omega), fun z => by omega, fun _ => ⟨fun _ => ⟨rfl, hh⟩, fun z => absurd hc z⟩⟩
  · obtain ⟨rfl, rfl⟩ := hq.1.2 hc
    exact ⟨rng_0, fun _ => ⟨fun z => absurd z hc, fun _ => ⟨rfl, rfl⟩⟩, fun z => absurd rfl z⟩
set_option maxRecDepth 100000 in
set_option maxHeartbeats 4000000 in
theorem bk_X7_laid_0 {X : gX} {G : gG} (hX : gOk X G cX7_laid 4 RX7 (some .int) 7) {Q : Int → gS → Prop} (hE : gEnd X G (gPi (fun v s' => Q v s' ∧ gRg s'))) (s : gS) (hs : gRg s) (x1 : Int) (x2 : Int) (x3 : Int)  (h : (rng x1) ∧ (cV s) ∧ (cCa s) ∧ (∀ (v6 : Int) (s4 : gS), (((((0 ≤ x1 ∧ x1 ≤ 9) ∧ ¬ s.1 (100 + s.1 (130 + x1) 2) 2 = 0) → v6 = 1 ∧ chas s s4 x1) ∧ (¬ ((0 ≤ x1 ∧ x1 ≤ 9) ∧ ¬ s.1 (100 + s.1 (130 + x1) 2) 2 = 0) → v6 = 0 ∧ s4 = s)) ∧ gRg s4) → (rng v6) ∧ ((v6 = 0 → Q (-2) s4) ∧ (¬ (v6 = 0) → (rng x2) ∧ (rng ((s4.1 4 4) - 1)) ∧ ((0 ≤ x2 ∧ x2 ≤ ((s4.1 4 4) - 1) → (rng x3) ∧ (((x3 < 0 ∨ 2 < x3) → Q (-2) s4) ∧ ((x3 = 0) → (0 ≤ x2 ∧ x2 < 24) ∧ Q (s4.2 9 x2) s4) ∧ ((x3 = 1) → (0 ≤ x2 ∧ x2 < 24) ∧ Q (s4.2 10 x2) s4) ∧ ((x3 = 2) → (0 ≤ x2 ∧ x2 < 24) ∧ Q (s4.2 12 x2) s4))) ∧ (¬ (0 ≤ x2 ∧ x2 ≤ ((s4.1 4 4) - 1)) → Q (-2) s4)))))) : gWL X G s 0 [(0, gR G 0), (1, vi x1), (2, vi x2), (3, vi x3)] [] := by
  refine g_aload_n hX dX7_laid_0 0 rfl ?_
  refine g_iload_n hX dX7_laid_1 1 rfl ?_
  obtain ⟨h1, h⟩ := h
  obtain ⟨h2, h⟩ := h
  obtain ⟨h3, h⟩ := h
  refine g_cVr (As := [vi x1]) hX (fun l => c_X7_hasLaying l hX.inj s x1 hs h1 h2 h3) sh_0 cv_X7_89 (by decide) rfl (Nat.le_of_ble_eq_true rfl) dX7_laid_2 rfl (fun v6 s4 q5 => ?_)
  replace h := h v6 s4 q5
  have rs4 : gRg s4 := q5.2
  obtain ⟨h7, h⟩ := h
  refine g_ifeq (tgt := 25) hX h7 dX7_laid_5 (by decide) (fun c8 => ?_) (fun c8 => ?_)
  · replace h := h.1 c8
    refine g_bipush hX dX7_laid_25 rfl ?_
    exact g_iret hX hE dX7_laid_27 ⟨h, rs4⟩
  · replace h := h.2 c8
    refine g_iload_n hX dX7_laid_8 2 rfl ?_
    refine g_iconst hX dX7_laid_9 ?_
    refine g_aload_n hX dX7_laid_10 0 rfl ?_
    refine g_getR hX sh_0 3 rfl fl_X7_33 dX7_laid_11 ?_
    refine g_getI hX sh_4 4 rfl fl_X7_96 dX7_laid_14 ?_
    refine g_iconst hX dX7_laid_17 ?_
    refine g_isub hX dX7_laid_18 ?_
    obtain ⟨h9, h⟩ := h
    obtain ⟨h10, h⟩ := h
    refine g_cSf (As := [vi x2, vi 0, vi ((s4.1 4 4) - 1)]) hX (fun l => c_X7_isWithin l hX.inj s4 x2 0 ((s4.1 4 4) - 1) rs4 h9 (by unfold rng; omega) h10) cv_X7_62 (by decide) rfl (Nat.le_of_ble_eq_true rfl) dX7_laid_19 rfl (fun g11 => ?_)
    refine g_ifne (tgt := 28) hX (gb_rng _) dX7_laid_22 (by decide) (fun c12 => ?_) (fun c12 => ?_)
    · replace h := h.1 (gb_n0.mp c12)
      refine g_iload_n hX dX7_laid_28 3 rfl ?_
      obtain ⟨h13, h⟩ := h
      obtain ⟨hd, h⟩ := h
      by_cases hout : x3 < 0 ∨ 2 < x3
      · replace h := hd hout
        refine g_tabOut (tgt := 86) hX h13 dX7_laid_29 hout (by decide) ?_
        refine g_bipush hX dX7_laid_86 rfl ?_
        exact g_iret hX hE dX7_laid_88 ⟨h, rs4⟩
      by_cases h_0 : x3 = 0
      · replace h := h.1 h_0
        refine g_tabIn (tgt := 56) hX h13 dX7_laid_29 (by omega) (by omega) (by rw [h_0]; rfl) (by decide) ?_
        refine g_aload_n hX dX7_laid_56 0 rfl ?_
        refine g_getR hX sh_0 3 rfl fl_X7_33 dX7_laid_57 ?_
        refine g_getR hX sh_4 0 rfl fl_X7_97 dX7_laid_60 ?_
        refine g_iload_n hX dX7_laid_63 2 rfl ?_
        obtain ⟨h14, h⟩ := h
        refine g_iald hX sh_9 h14 (by decide) dX7_laid_64 ?_
        exact g_iret hX hE dX7_laid_65 ⟨h, rs4⟩
      replace h := h.2
      by_cases h_1 : x3 = 1
      · replace h := h.1 h_1
        refine g_tabIn (tgt := 66) hX h13 dX7_laid_29 (by omega) (by omega) (by rw [h_1]; rfl) (by decide) ?_
        refine g_aload_n hX dX7_laid_66 0 rfl ?_
        refine g_getR hX sh_0 3 rfl fl_X7_33 dX7_laid_67 ?_
        refine g_getR hX sh_4 1 rfl fl_X7_100 dX7_laid_70 ?_
        refine g_iload_n hX dX7_laid_73 2 rfl ?_
        obtain ⟨h15, h⟩ := h
        refine g_iald hX sh_10 h15 (by decide) dX7_laid_74 ?_
        exact g_iret hX hE dX7_laid_75 ⟨h, rs4⟩
      replace h := h.2
      have h_2 : x3 = 2 := by omega
      replace h := h h_2
      refine g_tabIn (tgt := 76) hX h13 dX7_laid_29 (by omega) (by omega) (by rw [h_2]; rfl) (by decide) ?_
      refine g_aload_n hX dX7_laid_76 0 rfl ?_
      refine g_getR hX sh_0 3 rfl fl_X7_33 dX7_laid_77 ?_
      refine g_getR hX sh_4 3 rfl fl_X7_103 dX7_laid_80 ?_
      refine g_iload_n hX dX7_laid_83 2 rfl ?_
      obtain ⟨h16, h⟩ := h
      refine g_iald hX sh_12 h16 (by decide) dX7_laid_84 ?_
      exact g_iret hX hE dX7_laid_85 ⟨h, rs4⟩
    · replace h := h.2 (gb_eq0.mp (gnn c12))
      refine g_bipush hX dX7_laid_25 rfl ?_
      exact g_iret hX hE dX7_laid_27 ⟨h, rs4⟩
set_option maxRecDepth 100000 in
set_option maxHeartbeats 4000000 in
theorem c_X7_laid (l : Launch) {G : gG} (hG : gInj G) (s : gS) (x1 : Int) (x2 : Int) (x3 : Int) (p0 : gRg s) (p1 : rng x1) (p2 : rng x2) (p3 : rng x3) (p4 : cV s) (p5 : cCa s) : gMet l G yX7_laid cX7_laid 4 (some .int) 7 [gR G 0, vi x1, vi x2, vi x3] s (gPi (fun v s' => ((((0 ≤ x1 ∧ x1 ≤ 9) ∧ ¬ s.1 (100 + s.1 (130 + x1) 2) 2 = 0) → chas s s' x1 ∧ v = if 0 ≤ x2 ∧ x2 < s'.1 4 4 then (if x3 = 0 then s'.2 9 x2 else if x3 = 1 then s'.2 10 x2 else if x3 = 2 then s'.2 12 x2 else -2) else -2) ∧ (¬ ((0 ≤ x1 ∧ x1 ≤ 9) ∧ ¬ s.1 (100 + s.1 (130 + x1) 2) 2 = 0) → v = -2 ∧ s' = s)) ∧ gRg s')) := by
  refine gMet_of (plainFor_of_name (by decide)) hG (Nat.le_of_ble_eq_true rfl) (fun X hX hE => ?_)
  refine bk_X7_laid_0 hX hE s p0 x1 x2 x3  ?_
  refine ⟨p1, p4, p5, fun v u hq => ?_⟩
  by_cases hc : ((0 ≤ x1 ∧ x1 ≤ 9) ∧ ¬ s.1 (100 + s.1 (130 + x1) 2) 2 = 0)
  · obtain ⟨rfl, hh⟩ := hq.1.1 hc
    have hsz := chas_sz p4 hc.1 hh
    refine ⟨rng_of (by omega) (by omega), fun z => by omega, fun _ => ⟨p2, rng_of (by omega) (by omega), fun a => ⟨p3, fun b => ⟨fun _ => ⟨hh, ?_⟩, fun z => absurd hc z⟩, fun b => ⟨by omega, fun _ => ⟨hh, ?_⟩, fun z => absurd hc z⟩, fun b => ⟨by omega, fun _ => ⟨hh, ?_⟩, fun z => absurd hc z⟩, fun b => ⟨by omega, fun _ => ⟨hh, ?_⟩, fun z => absurd hc z⟩⟩, fun a => ⟨fun _ => ⟨hh, ?_⟩, fun z => absurd hc z⟩⟩⟩
    · rw [if_pos (by omega), if_neg (by omega), if_neg (by omega), if_neg (by omega)]
    · rw [if_pos (by omega), if_pos b]
    · rw [if_pos (by omega), if_neg (by omega), if_pos b]
    · rw [if_pos (by omega), if_neg (by omega), if_neg (by omega), if_pos b]
    · rw [if_neg (by omega)]
  · obtain ⟨rfl, rfl⟩ := hq.1.2 hc
    exact ⟨rng_0, fun _ => ⟨fun z => absurd z hc, fun _ => ⟨rfl, rfl⟩⟩, fun z => absurd rfl z⟩
set_option maxRecDepth 100000 in
set_option maxHeartbeats 4000000 in
theorem bk_X7_off_0 {X : gX} {G : gG} (hX : gOk X G cX7_off 3 RX7 (some .int) 7) {Q : Int → gS → Prop} (hE : gEnd X G (gPi (fun v s' => Q v s' ∧ gRg s'))) (s : gS) (hs : gRg s) (x1 : Int) (x2 : Int)  (h : (rng x1) ∧ (cV s) ∧ (cCa s) ∧ (∀ (v6 : Int) (s4 : gS), (((((0 ≤ x1 ∧ x1 ≤ 9) ∧ ¬ s.1 (100 + s.1 (130 + x1) 2) 2 = 0) → v6 = 1 ∧ chas s s4 x1) ∧ (¬ ((0 ≤ x1 ∧ x1 ≤ 9) ∧ ¬ s.1 (100 + s.1 (130 + x1) 2) 2 = 0) → v6 = 0 ∧ s4 = s)) ∧ gRg s4) → (rng v6) ∧ ((v6 = 0 → Q (-100000) s4) ∧ (¬ (v6 = 0) → (rng x2) ∧ (rng ((s4.1 4 4) - 1)) ∧ ((0 ≤ x2 ∧ x2 ≤ ((s4.1 4 4) - 1) → (0 ≤ x2 ∧ x2 < 24) ∧ Q (s4.2 11 x2) s4) ∧ (¬ (0 ≤ x2 ∧ x2 ≤ ((s4.1 4 4) - 1)) → Q (-100000) s4)))))) : gWL X G s 0 [(0, gR G 0), (1, vi x1), (2, vi x2)] [] := by
  refine g_aload_n hX dX7_off_0 0 rfl ?_
  refine g_iload_n hX dX7_off_1 1 rfl ?_
  obtain ⟨h1, h⟩ := h
  obtain ⟨h2, h⟩ := h
  obtain ⟨h3, h⟩ := h
  refine g_cVr (As := [vi x1]) hX (fun l => c_X7_hasLaying l hX.inj s x1 hs h1 h2 h3) sh_0 cv_X7_89 (by decide) rfl (Nat.le_of_ble_eq_true rfl) dX7_off_2 rfl (fun v6 s4 q5 => ?_)
  replace h := h v6 s4 q5
  have rs4 : gRg s4 := q5.2
  obtain ⟨h7, h⟩ := h
  refine g_ifeq (tgt := 25) hX h7 dX7_off_5 (by decide) (fun c8 => ?_) (fun c8 => ?_)
  · replace h := h.1 c8
    refine g_ldc (n := (-100000)) hX ldc_X7_106 dX7_off_25 rfl ?_
    exact g_iret hX hE dX7_off_27 ⟨h, rs4⟩
  · replace h := h.2 c8
    refine g_iload_n hX dX7_off_8 2 rfl ?_
    refine g_iconst hX dX7_off_9 ?_
    refine g_aload_n hX dX7_off_10 0 rfl ?_
    refine g_getR hX sh_0 3 rfl fl_X7_33 dX7_off_11 ?_
    refine g_getI hX sh_4 4 rfl fl_X7_96 dX7_off_14 ?_
    refine g_iconst hX dX7_off_17 ?_
    refine g_isub hX dX7_off_18 ?_
    obtain ⟨h9, h⟩ := h
    obtain ⟨h10, h⟩ := h
    refine g_cSf (As := [vi x2, vi 0, vi ((s4.1 4 4) - 1)]) hX (fun l => c_X7_isWithin l hX.inj s4 x2 0 ((s4.1 4 4) - 1) rs4 h9 (by unfold rng; omega) h10) cv_X7_62 (by decide) rfl (Nat.le_of_ble_eq_true rfl) dX7_off_19 rfl (fun g11 => ?_)
    refine g_ifne (tgt := 28) hX (gb_rng _) dX7_off_22 (by decide) (fun c12 => ?_) (fun c12 => ?_)
    · replace h := h.1 (gb_n0.mp c12)
      refine g_aload_n hX dX7_off_28 0 rfl ?_
      refine g_getR hX sh_0 3 rfl fl_X7_33 dX7_off_29 ?_
      refine g_getR hX sh_4 2 rfl fl_X7_107 dX7_off_32 ?_
      refine g_iload_n hX dX7_off_35 2 rfl ?_
      obtain ⟨h13, h⟩ := h
      refine g_iald hX sh_11 h13 (by decide) dX7_off_36 ?_
      exact g_iret hX hE dX7_off_37 ⟨h, rs4⟩
    · replace h := h.2 (gb_eq0.mp (gnn c12))
      refine g_ldc (n := (-100000)) hX ldc_X7_106 dX7_off_25 rfl ?_
      exact g_iret hX hE dX7_off_27 ⟨h, rs4⟩
set_option maxRecDepth 100000 in
set_option maxHeartbeats 4000000 in
theorem c_X7_off (l : Launch) {G : gG} (hG : gInj G) (s : gS) (x1 : Int) (x2 : Int) (p0 : gRg s) (p1 : rng x1) (p2 : rng x2) (p3 : cV s) (p4 : cCa s) : gMet l G yX7_off cX7_off 3 (some .int) 7 [gR G 0, vi x1, vi x2] s (gPi (fun v s' => ((((0 ≤ x1 ∧ x1 ≤ 9) ∧ ¬ s.1 (100 + s.1 (130 + x1) 2) 2 = 0) → chas s s' x1 ∧ v = if 0 ≤ x2 ∧ x2 < s'.1 4 4 then s'.2 11 x2 else -100000) ∧ (¬ ((0 ≤ x1 ∧ x1 ≤ 9) ∧ ¬ s.1 (100 + s.1 (130 + x1) 2) 2 = 0) → v = -100000 ∧ s' = s)) ∧ gRg s')) := by
  refine gMet_of (plainFor_of_name (by decide)) hG (Nat.le_of_ble_eq_true rfl) (fun X hX hE => ?_)
  refine bk_X7_off_0 hX hE s p0 x1 x2  ?_
  refine ⟨p1, p3, p4, fun v u hq => ?_⟩
  by_cases hc : ((0 ≤ x1 ∧ x1 ≤ 9) ∧ ¬ s.1 (100 + s.1 (130 + x1) 2) 2 = 0)
  · obtain ⟨rfl, hh⟩ := hq.1.1 hc
    have hsz := chas_sz p3 hc.1 hh
    refine ⟨rng_of (by omega) (by omega), fun z => by omega, fun _ => ⟨p2, rng_of (by omega) (by omega), fun a => ⟨by omega, fun _ => ⟨hh, ?_⟩, fun z => absurd hc z⟩, fun a => ⟨fun _ => ⟨hh, ?_⟩, fun z => absurd hc z⟩⟩⟩
    · rw [if_pos (by omega)]
    · rw [if_neg (by omega)]
  · obtain ⟨rfl, rfl⟩ := hq.1.2 hc
    exact ⟨rng_0, fun _ => ⟨fun z => absurd z hc, fun _ => ⟨rfl, rfl⟩⟩, fun z => absurd rfl z⟩
set_option maxRecDepth 100000 in
set_option maxHeartbeats 4000000 in
theorem bk_X7_told_0 {X : gX} {G : gG} (hX : gOk X G cX7_told 3 RX7 (some .int) 7) {Q : Int → gS → Prop} (hE : gEnd X G (gPi (fun v s' => Q v s' ∧ gRg s'))) (s : gS) (hs : gRg s) (x1 : Int) (x2 : Int)  (h : (rng x2) ∧ ((¬ (0 ≤ x2 ∧ x2 ≤ 1) → Q (-100000) s) ∧ (0 ≤ x2 ∧ x2 ≤ 1 → (rng x1) ∧ (cV s) ∧ (cCa s) ∧ (∀ (v9 : Int) (s7 : gS), (((((0 ≤ x1 ∧ x1 ≤ 9) ∧ ¬ s.1 (100 + s.1 (130 + x1) 2) 2 = 0) → v9 = 1 ∧ chas s s7 x1) ∧ (¬ ((0 ≤ x1 ∧ x1 ≤ 9) ∧ ¬ s.1 (100 + s.1 (130 + x1) 2) 2 = 0) → v9 = 0 ∧ s7 = s)) ∧ gRg s7) → (rng v9) ∧ ((¬ v9 = 0 → ((¬ x2 = 0 → Q (s7.1 4 7) s7) ∧ (x2 = 0 → Q (s7.1 4 6) s7))) ∧ (v9 = 0 → Q (-100000) s7)))))) : gWL X G s 0 [(0, gR G 0), (1, vi x1), (2, vi x2)] [] := by
  refine g_iload_n hX dX7_told_0 2 rfl ?_
  refine g_iconst hX dX7_told_1 ?_
  refine g_iconst hX dX7_told_2 ?_
  obtain ⟨h1, h⟩ := h
  refine g_cSf (As := [vi x2, vi 0, vi 1]) hX (fun l => c_X7_isWithin l hX.inj s x2 0 1 hs h1 (by unfold rng; omega) (by unfold rng; omega)) cv_X7_62 (by decide) rfl (Nat.le_of_ble_eq_true rfl) dX7_told_3 rfl (fun g2 => ?_)
  refine g_ifeq (tgt := 17) hX (gb_rng _) dX7_told_6 (by decide) (fun c3 => ?_) (fun c3 => ?_)
  · replace h := h.1 (gb_eq0.mp c3)
    refine g_ldc (n := (-100000)) hX ldc_X7_106 dX7_told_17 rfl ?_
    exact g_iret hX hE dX7_told_19 ⟨h, hs⟩
  · replace h := h.2 (gb_n0.mp c3)
    refine g_aload_n hX dX7_told_9 0 rfl ?_
    refine g_iload_n hX dX7_told_10 1 rfl ?_
    obtain ⟨h4, h⟩ := h
    obtain ⟨h5, h⟩ := h
    obtain ⟨h6, h⟩ := h
    refine g_cVr (As := [vi x1]) hX (fun l => c_X7_hasLaying l hX.inj s x1 hs h4 h5 h6) sh_0 cv_X7_89 (by decide) rfl (Nat.le_of_ble_eq_true rfl) dX7_told_11 rfl (fun v9 s7 q8 => ?_)
    replace h := h v9 s7 q8
    have rs7 : gRg s7 := q8.2
    obtain ⟨h10, h⟩ := h
    refine g_ifne (tgt := 20) hX h10 dX7_told_14 (by decide) (fun c11 => ?_) (fun c11 => ?_)
    · replace h := h.1 c11
      refine g_iload_n hX dX7_told_20 2 rfl ?_
      refine g_ifne (tgt := 34) hX h1 dX7_told_21 (by decide) (fun c12 => ?_) (fun c12 => ?_)
      · replace h := h.1 c12
        refine g_aload_n hX dX7_told_34 0 rfl ?_
        refine g_getR hX sh_0 3 rfl fl_X7_33 dX7_told_35 ?_
        refine g_getI hX sh_4 7 rfl fl_X7_113 dX7_told_38 ?_
        exact g_iret hX hE dX7_told_41 ⟨h, rs7⟩
      · replace h := h.2 (gnn c12)
        refine g_aload_n hX dX7_told_24 0 rfl ?_
        refine g_getR hX sh_0 3 rfl fl_X7_33 dX7_told_25 ?_
        refine g_getI hX sh_4 6 rfl fl_X7_110 dX7_told_28 ?_
        refine g_goto (tgt := 41) hX dX7_told_31 (by decide) ?_
        exact g_iret hX hE dX7_told_41 ⟨h, rs7⟩
    · replace h := h.2 (gnn c11)
      refine g_ldc (n := (-100000)) hX ldc_X7_106 dX7_told_17 rfl ?_
      exact g_iret hX hE dX7_told_19 ⟨h, rs7⟩
set_option maxRecDepth 100000 in
set_option maxHeartbeats 4000000 in
theorem c_X7_told (l : Launch) {G : gG} (hG : gInj G) (s : gS) (x1 : Int) (x2 : Int) (p0 : gRg s) (p1 : rng x1) (p2 : rng x2) (p3 : cV s) (p4 : cCa s) : gMet l G yX7_told cX7_told 3 (some .int) 7 [gR G 0, vi x1, vi x2] s (gPi (fun v s' => (((((0 ≤ x1 ∧ x1 ≤ 9) ∧ ¬ s.1 (100 + s.1 (130 + x1) 2) 2 = 0) ∧ (x2 = 0 ∨ x2 = 1)) → chas s s' x1 ∧ v = if x2 = 0 then s'.1 4 6 else s'.1 4 7) ∧ (¬ (((0 ≤ x1 ∧ x1 ≤ 9) ∧ ¬ s.1 (100 + s.1 (130 + x1) 2) 2 = 0) ∧ (x2 = 0 ∨ x2 = 1)) → v = -100000 ∧ s' = s)) ∧ gRg s')) := by
  refine gMet_of (plainFor_of_name (by decide)) hG (Nat.le_of_ble_eq_true rfl) (fun X hX hE => ?_)
  refine bk_X7_told_0 hX hE s p0 x1 x2  ?_
  refine ⟨p2, fun a => ⟨fun z => by omega, fun _ => ⟨rfl, rfl⟩⟩, fun a => ⟨p1, p3, p4, fun v u hq => ?_⟩⟩
  by_cases hc : ((0 ≤ x1 ∧ x1 ≤ 9) ∧ ¬ s.1 (100 + s.1 (130 + x1) 2) 2 = 0)
  · obtain ⟨rfl, hh⟩ := hq.1.1 hc
    exact ⟨rng_of (by omega) (by omega), fun _ => ⟨fun b => ⟨fun _ => ⟨hh, by rw [if_neg b]⟩, fun z => absurd ⟨hc, by omega⟩ z⟩, fun b => ⟨fun _ => ⟨hh, by rw [if_pos b]⟩, fun z => absurd ⟨hc, by omega⟩ z⟩⟩, fun z => by omega⟩
  · obtain ⟨rfl, rfl⟩ := hq.1.2 hc
    exact ⟨rng_0, fun z => absurd rfl z, fun _ => ⟨fun z => absurd z.1 hc, fun _ => ⟨rfl, rfl⟩⟩⟩
set_option maxRecDepth 100000 in
set_option maxHeartbeats 4000000 in
theorem bk_X8_note_0 {X : gX} {G : gG} (hX : gOk X G cX8_note 4 RX8 (some .int) 2) {Q : Int → gS → Prop} (hE : gEnd X G (gPi (fun v s' => Q v s' ∧ gRg s'))) (s : gS) (hs : gRg s) (x1 : Int) (x2 : Int) (x3 : Int)  (h : (rng x1) ∧ ((¬ (0 ≤ x1 ∧ x1 ≤ 5) → Q (-1) s) ∧ (0 ≤ x1 ∧ x1 ≤ 5 → (rng x2) ∧ ((¬ (0 ≤ x2 ∧ x2 ≤ 4800) → Q (-1) s) ∧ (0 ≤ x2 ∧ x2 ≤ 4800 → (rng x3) ∧ ((¬ (1 ≤ x3 ∧ x3 ≤ 8) → Q (-1) s) ∧ (1 ≤ x3 ∧ x3 ≤ 8 → (0 ≤ x1 ∧ x1 < 6) ∧ ((¬ (s.2 401 x1) = 24 → (0 ≤ ((24 * x1) + (s.2 401 x1)) ∧ ((24 * x1) + (s.2 401 x1)) < 144) ∧ (rng ((s.2 401 x1) + 1)) ∧ Q ((s.2 401 x1) + 1) (gpA (gpA (gpA s 402 ((24 * x1) + (s.2 401 x1)) x2) 403 ((24 * x1) + (s.2 401 x1)) x3) 401 x1 ((s.2 401 x1) + 1))) ∧ ((s.2 401 x1) = 24 → Q (-1) s))))))))) : gWL X G s 0 [(0, gR G 400), (1, vi x1), (2, vi x2), (3, vi x3)] [] := by
  refine g_iload_n hX dX8_note_0 1 rfl ?_
  refine g_iconst hX dX8_note_1 ?_
  refine g_iconst hX dX8_note_2 ?_
  obtain ⟨h1, h⟩ := h
  refine g_cSf (As := [vi x1, vi 0, vi 5]) hX (fun l => c_X8_isIn l hX.inj s x1 0 5 hs h1 (by unfold rng; omega) (by unfold rng; omega)) cv_X8_102 (by decide) rfl (Nat.le_of_ble_eq_true rfl) dX8_note_3 rfl (fun g2 => ?_)
  refine g_ifeq (tgt := 41) hX (gb_rng _) dX8_note_6 (by decide) (fun c3 => ?_) (fun c3 => ?_)
  · replace h := h.1 (gb_eq0.mp c3)
    refine g_iconst hX dX8_note_41 ?_
    exact g_iret hX hE dX8_note_42 ⟨h, hs⟩
  · replace h := h.2 (gb_n0.mp c3)
    refine g_iload_n hX dX8_note_9 2 rfl ?_
    refine g_iconst hX dX8_note_10 ?_
    refine g_sipush hX dX8_note_11 rfl ?_
    obtain ⟨h4, h⟩ := h
    refine g_cSf (As := [vi x2, vi 0, vi 4800]) hX (fun l => c_X8_isIn l hX.inj s x2 0 4800 hs h4 (by unfold rng; omega) (by unfold rng; omega)) cv_X8_102 (by decide) rfl (Nat.le_of_ble_eq_true rfl) dX8_note_14 rfl (fun g5 => ?_)
    refine g_ifeq (tgt := 41) hX (gb_rng _) dX8_note_17 (by decide) (fun c6 => ?_) (fun c6 => ?_)
    · replace h := h.1 (gb_eq0.mp c6)
      refine g_iconst hX dX8_note_41 ?_
      exact g_iret hX hE dX8_note_42 ⟨h, hs⟩
    · replace h := h.2 (gb_n0.mp c6)
      refine g_iload_n hX dX8_note_20 3 rfl ?_
      refine g_iconst hX dX8_note_21 ?_
      refine g_bipush hX dX8_note_22 rfl ?_
      obtain ⟨h7, h⟩ := h
      refine g_cSf (As := [vi x3, vi 1, vi 8]) hX (fun l => c_X8_isIn l hX.inj s x3 1 8 hs h7 (by unfold rng; omega) (by unfold rng; omega)) cv_X8_102 (by decide) rfl (Nat.le_of_ble_eq_true rfl) dX8_note_24 rfl (fun g8 => ?_)
      refine g_ifeq (tgt := 41) hX (gb_rng _) dX8_note_27 (by decide) (fun c9 => ?_) (fun c9 => ?_)
      · replace h := h.1 (gb_eq0.mp c9)
        refine g_iconst hX dX8_note_41 ?_
        exact g_iret hX hE dX8_note_42 ⟨h, hs⟩
      · replace h := h.2 (gb_n0.mp c9)
        refine g_aload_n hX dX8_note_30 0 rfl ?_
        refine g_getR hX sh_400 0 rfl fl_X8_7 dX8_note_31 ?_
        refine g_iload_n hX dX8_note_34 1 rfl ?_
        obtain ⟨h10, h⟩ := h
        refine g_iald hX sh_401 h10 (by decide) dX8_note_35 ?_
        refine g_bipush hX dX8_note_36 rfl ?_
        refine g_icne (tgt := 43) hX (hs.2 _ _) (by unfold rng; omega) dX8_note_38 (by decide) (fun c11 => ?_) (fun c11 => ?_)
        · replace h := h.1 c11
          refine g_aload_n hX dX8_note_43 0 rfl ?_
          refine g_getR hX sh_400 1 rfl fl_X8_13 dX8_note_44 ?_
          refine g_bipush hX dX8_note_47 rfl ?_
          refine g_iload_n hX dX8_note_49 1 rfl ?_
          refine g_imul hX dX8_note_50 ?_
          refine g_aload_n hX dX8_note_51 0 rfl ?_
          refine g_getR hX sh_400 0 rfl fl_X8_7 dX8_note_52 ?_
          refine g_iload_n hX dX8_note_55 1 rfl ?_
          refine g_iald hX sh_401 h10 (by decide) dX8_note_56 ?_
          refine g_iadd hX dX8_note_57 ?_
          refine g_iload_n hX dX8_note_58 2 rfl ?_
          obtain ⟨h12, h⟩ := h
          refine g_iast hX sh_402 h12 (by decide) dX8_note_59 ?_
          refine g_aload_n hX dX8_note_60 0 rfl ?_
          refine g_getR hX sh_400 2 rfl fl_X8_16 dX8_note_61 ?_
          refine g_bipush hX dX8_note_64 rfl ?_
          refine g_iload_n hX dX8_note_66 1 rfl ?_
          refine g_imul hX dX8_note_67 ?_
          refine g_aload_n hX dX8_note_68 0 rfl ?_
          refine g_getR hX sh_400 0 rfl fl_X8_7 dX8_note_69 ?_
          refine g_iload_n hX dX8_note_72 1 rfl ?_
          refine g_iald hX sh_401 h10 (by decide) dX8_note_73 ?_
          refine g_top (gpA_nk (by decide)) ?_
          refine g_iadd hX dX8_note_74 ?_
          refine g_iload_n hX dX8_note_75 3 rfl ?_
          refine g_iast hX sh_403 h12 (by decide) dX8_note_76 ?_
          refine g_aload_n hX dX8_note_77 0 rfl ?_
          refine g_getR hX sh_400 0 rfl fl_X8_7 dX8_note_78 ?_
          refine g_iload_n hX dX8_note_81 1 rfl ?_
          refine g_dup2 hX rfl rfl dX8_note_82 ?_
          refine g_iald hX sh_401 h10 (by decide) dX8_note_83 ?_
          refine g_top (gpA_nk (by decide)) ?_
          refine g_top (gpA_nk (by decide)) ?_
          refine g_iconst hX dX8_note_84 ?_
          refine g_iadd hX dX8_note_85 ?_
          obtain ⟨h13, h⟩ := h
          refine g_iast hX sh_401 h10 (by decide) dX8_note_86 ?_
          refine g_aload_n hX dX8_note_87 0 rfl ?_
          refine g_getR hX sh_400 0 rfl fl_X8_7 dX8_note_88 ?_
          refine g_iload_n hX dX8_note_91 1 rfl ?_
          refine g_iald hX sh_401 h10 (by decide) dX8_note_92 ?_
          refine g_top gpA_eq ?_
          exact g_iret hX hE dX8_note_93 ⟨h, (gRg_A (gRg_A (gRg_A hs h4) h7) h13)⟩
        · replace h := h.2 (gnn c11)
          refine g_iconst hX dX8_note_41 ?_
          exact g_iret hX hE dX8_note_42 ⟨h, hs⟩
set_option maxRecDepth 100000 in
set_option maxHeartbeats 4000000 in
theorem c_X8_note (l : Launch) {G : gG} (hG : gInj G) (s : gS) (x1 : Int) (x2 : Int) (x3 : Int) (p0 : gRg s) (p1 : rng x1) (p2 : rng x2) (p3 : rng x3) (p4 : ∀ p : Int, 0 ≤ p → p < 6 → 0 ≤ s.2 401 p ∧ s.2 401 p ≤ 24) : gMet l G yX8_note cX8_note 4 (some .int) 2 [gR G 400, vi x1, vi x2, vi x3] s (gPi (fun v s' => (if (0 ≤ x1 ∧ x1 ≤ 5) ∧ (0 ≤ x2 ∧ x2 ≤ 4800) ∧ (1 ≤ x3 ∧ x3 ≤ 8) ∧ s.2 401 x1 < 24 then v = s.2 401 x1 + 1 ∧ s' = gpA (gpA (gpA s 402 ((24 * x1) + s.2 401 x1) x2) 403 ((24 * x1) + s.2 401 x1) x3) 401 x1 (s.2 401 x1 + 1) else v = -1 ∧ s' = s) ∧ gRg s')) := by
  refine gMet_of (plainFor_of_name (by decide)) hG (Nat.le_of_ble_eq_true rfl) (fun X hX hE => ?_)
  refine bk_X8_note_0 hX hE s p0 x1 x2 x3  ?_
  have hsz : 0 ≤ x1 → x1 ≤ 5 → 0 ≤ s.2 401 x1 ∧ s.2 401 x1 ≤ 24 := fun a b => p4 x1 a (by omega)
  refine ⟨p1, fun a => ?_, fun a => ⟨p2, fun b => ?_, fun b => ⟨p3, fun c => ?_, fun c => ⟨by omega, fun d => ⟨by have := hsz a.1 a.2; omega, by have := hsz a.1 a.2; exact rng_of (by omega) (by omega), by have := hsz a.1 a.2; rw [if_pos (by omega)]; exact ⟨rfl, rfl⟩⟩, fun d => ?_⟩⟩⟩⟩
  any_goals (rw [if_neg (by omega)]; exact ⟨rfl, rfl⟩)
set_option maxRecDepth 100000 in
set_option maxHeartbeats 4000000 in
theorem bk_X8_record_0 {X : gX} {G : gG} (hX : gOk X G cX8_record 4 RX8 (some .int) 3) {Q : Int → gS → Prop} (hE : gEnd X G (gPi (fun v s' => Q v s' ∧ gRg s'))) (s : gS) (hs : gRg s) (x1 : Int) (x2 : Int)  (h : (rng x1) ∧ ((¬ (0 ≤ x1 ∧ x1 ≤ 9) → Q (-1) s) ∧ (0 ≤ x1 ∧ x1 ≤ 9 → (rng x2) ∧ ((0 ≤ x2 ∧ x2 ≤ 5 → (0 ≤ x1 ∧ x1 < 10) ∧ Q (s.2 405 x1) (gpA (gpA s 404 x1 x2) 405 x1 0)) ∧ (¬ (0 ≤ x2 ∧ x2 ≤ 5) → Q (-1) s))))) : gWL X G s 0 [(0, gR G 400), (1, vi x1), (2, vi x2)] [] := by
  refine g_iload_n hX dX8_record_0 1 rfl ?_
  obtain ⟨h1, h⟩ := h
  refine g_cSf (As := [vi x1]) hX (fun l => c_X8_isRecording l hX.inj s x1 hs h1) cv_X8_106 (by decide) rfl (Nat.le_of_ble_eq_true rfl) dX8_record_1 rfl (fun g2 => ?_)
  refine g_ifeq (tgt := 16) hX (gb_rng _) dX8_record_4 (by decide) (fun c3 => ?_) (fun c3 => ?_)
  · replace h := h.1 (gb_eq0.mp c3)
    refine g_iconst hX dX8_record_16 ?_
    exact g_iret hX hE dX8_record_17 ⟨h, hs⟩
  · replace h := h.2 (gb_n0.mp c3)
    refine g_iload_n hX dX8_record_7 2 rfl ?_
    refine g_iconst hX dX8_record_8 ?_
    refine g_iconst hX dX8_record_9 ?_
    obtain ⟨h4, h⟩ := h
    refine g_cSf (As := [vi x2, vi 0, vi 5]) hX (fun l => c_X8_isIn l hX.inj s x2 0 5 hs h4 (by unfold rng; omega) (by unfold rng; omega)) cv_X8_102 (by decide) rfl (Nat.le_of_ble_eq_true rfl) dX8_record_10 rfl (fun g5 => ?_)
    refine g_ifne (tgt := 18) hX (gb_rng _) dX8_record_13 (by decide) (fun c6 => ?_) (fun c6 => ?_)
    · replace h := h.1 (gb_n0.mp c6)
      refine g_aload_n hX dX8_record_18 0 rfl ?_
      refine g_getR hX sh_400 4 rfl fl_X8_22 dX8_record_19 ?_
      refine g_iload_n hX dX8_record_22 1 rfl ?_
      obtain ⟨h7, h⟩ := h
      refine g_iald hX sh_405 h7 (by decide) dX8_record_23 ?_
      refine g_istore_n (loc' := [(3, vi (s.2 405 x1)), (0, gR G 400), (1, vi x1), (2, vi x2)]) hX dX8_record_24 (by decide) rfl ?_
      refine g_aload_n hX dX8_record_25 1 rfl ?_
      refine g_getR hX sh_400 3 rfl fl_X8_19 dX8_record_26 ?_
      refine g_iload_n hX dX8_record_29 2 rfl ?_
      refine g_iload_n hX dX8_record_30 3 rfl ?_
      refine g_iast hX sh_404 h7 (by decide) dX8_record_31 ?_
      refine g_aload_n hX dX8_record_32 1 rfl ?_
      refine g_getR hX sh_400 4 rfl fl_X8_22 dX8_record_33 ?_
      refine g_iload_n hX dX8_record_36 2 rfl ?_
      refine g_iconst hX dX8_record_37 ?_
      refine g_iast hX sh_405 h7 (by decide) dX8_record_38 ?_
      refine g_iload_n hX dX8_record_39 0 rfl ?_
      exact g_iret hX hE dX8_record_40 ⟨h, (gRg_A (gRg_A hs h4) (by unfold rng; omega))⟩
    · replace h := h.2 (gb_eq0.mp (gnn c6))
      refine g_iconst hX dX8_record_16 ?_
      exact g_iret hX hE dX8_record_17 ⟨h, hs⟩
set_option maxRecDepth 100000 in
set_option maxHeartbeats 4000000 in
theorem c_X8_record (l : Launch) {G : gG} (hG : gInj G) (s : gS) (x1 : Int) (x2 : Int) (p0 : gRg s) (p1 : rng x1) (p2 : rng x2) : gMet l G yX8_record cX8_record 4 (some .int) 3 [gR G 400, vi x1, vi x2] s (gPi (fun v s' => (if (0 ≤ x1 ∧ x1 ≤ 9) ∧ (0 ≤ x2 ∧ x2 ≤ 5) then v = s.2 405 x1 ∧ s' = gpA (gpA s 404 x1 x2) 405 x1 0 else v = -1 ∧ s' = s) ∧ gRg s')) := by
  refine gMet_of (plainFor_of_name (by decide)) hG (Nat.le_of_ble_eq_true rfl) (fun X hX hE => ?_)
  refine bk_X8_record_0 hX hE s p0 x1 x2  ?_
  refine ⟨p1, fun a => ?_, fun a => ⟨p2, fun b => ⟨by omega, ?_⟩, fun b => ?_⟩⟩
  any_goals (rw [if_neg (by omega)]; exact ⟨rfl, rfl⟩)
  rw [if_pos ⟨a, b⟩]
  exact ⟨rfl, rfl⟩
set_option maxRecDepth 100000 in
set_option maxHeartbeats 4000000 in
theorem bk_X8_read_0 {X : gX} {G : gG} (hX : gOk X G cX8_read 5 RX8 (some .int) 3) {Q : Int → gS → Prop} (hE : gEnd X G (gPi (fun v s' => Q v s' ∧ gRg s'))) (s : gS) (hs : gRg s) (x1 : Int) (x2 : Int) (x3 : Int)  (h : (rng x1) ∧ ((¬ (0 ≤ x1 ∧ x1 ≤ 9) → Q (-1) s) ∧ (0 ≤ x1 ∧ x1 ≤ 9 → (rng x2) ∧ ((¬ ((-1) ≤ x2 ∧ x2 ≤ 4800) → Q (-1) s) ∧ ((-1) ≤ x2 ∧ x2 ≤ 4800 → (rng x3) ∧ ((¬ (1 ≤ x3 ∧ x3 ≤ 60) → Q (-1) s) ∧ (1 ≤ x3 ∧ x3 ≤ 60 → (0 ≤ x1 ∧ x1 < 10) ∧ (rng ((s.2 405 x1) + x3)) ∧ ((((s.2 405 x1) + x3) ≤ 120 → gWL X G s 46 [(0, gR G 400), (1, vi x1), (2, vi x2), (3, vi x3), (4, vi 0)] []) ∧ (120 < ((s.2 405 x1) + x3) → Q (-1) s))))))))) : gWL X G s 0 [(0, gR G 400), (1, vi x1), (2, vi x2), (3, vi x3)] [] := by
  refine g_iload_n hX dX8_read_0 1 rfl ?_
  obtain ⟨h1, h⟩ := h
  refine g_cSf (As := [vi x1]) hX (fun l => c_X8_isRecording l hX.inj s x1 hs h1) cv_X8_106 (by decide) rfl (Nat.le_of_ble_eq_true rfl) dX8_read_1 rfl (fun g2 => ?_)
  refine g_ifeq (tgt := 41) hX (gb_rng _) dX8_read_4 (by decide) (fun c3 => ?_) (fun c3 => ?_)
  · replace h := h.1 (gb_eq0.mp c3)
    refine g_iconst hX dX8_read_41 ?_
    exact g_iret hX hE dX8_read_42 ⟨h, hs⟩
  · replace h := h.2 (gb_n0.mp c3)
    refine g_iload_n hX dX8_read_7 2 rfl ?_
    refine g_iconst hX dX8_read_8 ?_
    refine g_sipush hX dX8_read_9 rfl ?_
    obtain ⟨h4, h⟩ := h
    refine g_cSf (As := [vi x2, vi (-1), vi 4800]) hX (fun l => c_X8_isIn l hX.inj s x2 (-1) 4800 hs h4 (by unfold rng; omega) (by unfold rng; omega)) cv_X8_102 (by decide) rfl (Nat.le_of_ble_eq_true rfl) dX8_read_12 rfl (fun g5 => ?_)
    refine g_ifeq (tgt := 41) hX (gb_rng _) dX8_read_15 (by decide) (fun c6 => ?_) (fun c6 => ?_)
    · replace h := h.1 (gb_eq0.mp c6)
      refine g_iconst hX dX8_read_41 ?_
      exact g_iret hX hE dX8_read_42 ⟨h, hs⟩
    · replace h := h.2 (gb_n0.mp c6)
      refine g_iload_n hX dX8_read_18 3 rfl ?_
      refine g_iconst hX dX8_read_19 ?_
      refine g_bipush hX dX8_read_20 rfl ?_
      obtain ⟨h7, h⟩ := h
      refine g_cSf (As := [vi x3, vi 1, vi 60]) hX (fun l => c_X8_isIn l hX.inj s x3 1 60 hs h7 (by unfold rng; omega) (by unfold rng; omega)) cv_X8_102 (by decide) rfl (Nat.le_of_ble_eq_true rfl) dX8_read_22 rfl (fun g8 => ?_)
      refine g_ifeq (tgt := 41) hX (gb_rng _) dX8_read_25 (by decide) (fun c9 => ?_) (fun c9 => ?_)
      · replace h := h.1 (gb_eq0.mp c9)
        refine g_iconst hX dX8_read_41 ?_
        exact g_iret hX hE dX8_read_42 ⟨h, hs⟩
      · replace h := h.2 (gb_n0.mp c9)
        refine g_aload_n hX dX8_read_28 0 rfl ?_
        refine g_getR hX sh_400 4 rfl fl_X8_22 dX8_read_29 ?_
        refine g_iload_n hX dX8_read_32 1 rfl ?_
        obtain ⟨h10, h⟩ := h
        refine g_iald hX sh_405 h10 (by decide) dX8_read_33 ?_
        refine g_iload_n hX dX8_read_34 3 rfl ?_
        refine g_iadd hX dX8_read_35 ?_
        refine g_bipush hX dX8_read_36 rfl ?_
        obtain ⟨h11, h⟩ := h
        refine g_icle (tgt := 43) hX h11 (by unfold rng; omega) dX8_read_38 (by decide) (fun c12 => ?_) (fun c12 => ?_)
        · replace h := h.1 c12
          refine g_iconst hX dX8_read_43 ?_
          refine g_istore (loc' := [(4, vi 0), (0, gR G 400), (1, vi x1), (2, vi x2), (3, vi x3)]) hX dX8_read_44 (by decide) rfl ?_
          exact g_sub [1, 2, 3, 4, 0] rfl h
        · replace h := h.2 (Int.not_le.mp c12)
          refine g_iconst hX dX8_read_41 ?_
          exact g_iret hX hE dX8_read_42 ⟨h, hs⟩
set_option maxRecDepth 100000 in
set_option maxHeartbeats 4000000 in
theorem bk_X8_read_46 {X : gX} {G : gG} (hX : gOk X G cX8_read 5 RX8 (some .int) 3) {Q : Int → gS → Prop} (hE : gEnd X G (gPi (fun v s' => Q v s' ∧ gRg s'))) (s : gS) (hs : gRg s) (x1 : Int) (x2 : Int) (x3 : Int) (x4 : Int)  (h : (rng x4) ∧ (rng x3) ∧ ((x3 ≤ x4 → (0 ≤ x1 ∧ x1 < 10) ∧ Q (s.2 405 x1) s) ∧ (x4 < x3 → (0 ≤ x1 ∧ x1 < 10) ∧ (0 ≤ ((120 * x1) + (s.2 405 x1)) ∧ ((120 * x1) + (s.2 405 x1)) < 1200) ∧ (rng x2) ∧ (rng ((s.2 405 x1) + 1)) ∧ gWL X G (gpA (gpA s 406 ((120 * x1) + (s.2 405 x1)) x2) 405 x1 ((s.2 405 x1) + 1)) 46 [(0, gR G 400), (1, vi x1), (2, vi x2), (3, vi x3), (4, vi (x4 + 1))] []))) : gWL X G s 46 [(0, gR G 400), (1, vi x1), (2, vi x2), (3, vi x3), (4, vi x4)] [] := by
  refine g_iload hX dX8_read_46 4 rfl ?_
  refine g_iload_n hX dX8_read_48 3 rfl ?_
  obtain ⟨h1, h⟩ := h
  obtain ⟨h2, h⟩ := h
  refine g_icge (tgt := 85) hX h1 h2 dX8_read_49 (by decide) (fun c3 => ?_) (fun c3 => ?_)
  · replace h := h.1 c3
    refine g_aload_n hX dX8_read_85 0 rfl ?_
    refine g_getR hX sh_400 4 rfl fl_X8_22 dX8_read_86 ?_
    refine g_iload_n hX dX8_read_89 1 rfl ?_
    obtain ⟨h4, h⟩ := h
    refine g_iald hX sh_405 h4 (by decide) dX8_read_90 ?_
    exact g_iret hX hE dX8_read_91 ⟨h, hs⟩
  · replace h := h.2 (Int.not_le.mp c3)
    refine g_aload_n hX dX8_read_52 0 rfl ?_
    refine g_getR hX sh_400 5 rfl fl_X8_25 dX8_read_53 ?_
    refine g_bipush hX dX8_read_56 rfl ?_
    refine g_iload_n hX dX8_read_58 1 rfl ?_
    refine g_imul hX dX8_read_59 ?_
    refine g_aload_n hX dX8_read_60 0 rfl ?_
    refine g_getR hX sh_400 4 rfl fl_X8_22 dX8_read_61 ?_
    refine g_iload_n hX dX8_read_64 1 rfl ?_
    obtain ⟨h5, h⟩ := h
    refine g_iald hX sh_405 h5 (by decide) dX8_read_65 ?_
    refine g_iadd hX dX8_read_66 ?_
    refine g_iload_n hX dX8_read_67 2 rfl ?_
    obtain ⟨h6, h⟩ := h
    obtain ⟨h7, h⟩ := h
    refine g_iast hX sh_406 h6 (by decide) dX8_read_68 ?_
    refine g_aload_n hX dX8_read_69 0 rfl ?_
    refine g_getR hX sh_400 4 rfl fl_X8_22 dX8_read_70 ?_
    refine g_iload_n hX dX8_read_73 1 rfl ?_
    refine g_dup2 hX rfl rfl dX8_read_74 ?_
    refine g_iald hX sh_405 h5 (by decide) dX8_read_75 ?_
    refine g_top (gpA_nk (by decide)) ?_
    refine g_iconst hX dX8_read_76 ?_
    refine g_iadd hX dX8_read_77 ?_
    obtain ⟨h8, h⟩ := h
    refine g_iast hX sh_405 h5 (by decide) dX8_read_78 ?_
    refine g_iinc (loc' := [(4, vi (x4 + 1)), (0, gR G 400), (1, vi x1), (2, vi x2), (3, vi x3)]) hX dX8_read_79 4 rfl (by decide) rfl ?_
    refine g_goto (tgt := 46) hX dX8_read_82 (by decide) ?_
    exact g_sub [1, 2, 3, 4, 0] rfl h
set_option maxRecDepth 100000 in
set_option maxHeartbeats 4000000 in
theorem c_X8_read (l : Launch) {G : gG} (hG : gInj G) (s : gS) (x1 : Int) (x2 : Int) (x3 : Int) (p0 : gRg s) (p1 : rng x1) (p2 : rng x2) (p3 : rng x3) (p4 : ∀ r : Int, 0 ≤ r → r < 10 → 0 ≤ s.2 405 r ∧ s.2 405 r ≤ 120) : gMet l G yX8_read cX8_read 5 (some .int) 3 [gR G 400, vi x1, vi x2, vi x3] s (gPi (fun v s' => (if (0 ≤ x1 ∧ x1 ≤ 9) ∧ (1 ≤ x3 ∧ x3 ≤ 60) ∧ (-1 ≤ x2 ∧ x2 ≤ 4800) ∧ s.2 405 x1 + x3 ≤ 120 then v = s.2 405 x1 + x3 ∧ s' = gpA (gfill s 406 ((120 * x1) + s.2 405 x1) x2 x3) 405 x1 (s.2 405 x1 + x3) else v = -1 ∧ s' = s) ∧ gRg s')) := by
  refine gMet_of (plainFor_of_name (by decide)) hG (Nat.le_of_ble_eq_true rfl) (fun X hX hE => ?_)
  refine bk_X8_read_0 hX hE s p0 x1 x2 x3  ?_
  have hsz : 0 ≤ x1 → x1 ≤ 9 → 0 ≤ s.2 405 x1 ∧ s.2 405 x1 ≤ 120 := fun a b => p4 x1 a (by omega)
  refine ⟨p1, fun a => ?_, fun a => ⟨p2, fun b => ?_, fun b => ⟨p3, fun c => ?_, fun c => ⟨by omega, ?_, fun d => ?_, fun d => ?_⟩⟩⟩⟩
  any_goals (rw [if_neg (by omega)]; exact ⟨rfl, rfl⟩)
  · have := hsz a.1 a.2
    exact rng_of (by omega) (by omega)
  have hz := hsz a.1 a.2
  refine gloop (α := gS) (hi := x3) (fun i t => 0 ≤ i ∧ gRg t ∧ t = gpA (gfill s 406 ((120 * x1) + s.2 405 x1) x2 i) 405 x1 (s.2 405 x1 + i)) (fun i t => gWL X G t 46 [(0, gR G 400), (1, vi x1), (2, vi x2), (3, vi x3), (4, vi i)] []) ?_ ?_ 0 s (by omega) ⟨by omega, p0, ?_⟩
  · intro i t hi ⟨i0, hg, ht⟩ next
    have e1 : t.2 405 x1 = s.2 405 x1 + i := by rw [ht, gpA_eq]
    refine bk_X8_read_46 hX hE t hg x1 x2 x3 i ⟨rng_of (by omega) (by omega), p3, fun h => by omega, fun _ => ⟨by omega, by omega, p2, rng_of (by omega) (by omega), next _ ⟨by omega, gRg_A (gRg_A hg p2) (rng_of (by omega) (by omega)), ?_⟩⟩⟩
    rw [e1, ht]
    unfold gfill
    rw [giter_s _ _ i0]
    exact mfill_put _ _ _ _ _ _ _
  · intro t ⟨i0, hg, ht⟩
    have e1 : t.2 405 x1 = s.2 405 x1 + x3 := by rw [ht, gpA_eq]
    refine bk_X8_read_46 hX hE t hg x1 x2 x3 x3 ⟨p3, p3, fun _ => ⟨by omega, ?_⟩, fun h => by omega⟩
    rw [if_pos ⟨a, c, b, d⟩]
    exact ⟨e1, ht⟩
  · show s = gpA s 405 x1 (s.2 405 x1 + 0)
    refine Prod.ext rfl ?_
    funext k j
    show s.2 k j = if k = 405 ∧ j = x1 then s.2 405 x1 + 0 else s.2 k j
    split
    · next h => rw [h.1, h.2]; omega
    · rfl
set_option maxRecDepth 100000 in
set_option maxHeartbeats 4000000 in
theorem bk_X8_rules_0 {X : gX} {G : gG} (hX : gOk X G cX8_rules 6 RX8 (some .boolean) 2) {Q : Int → gS → Prop} (hE : gEnd X G (gPi (fun v s' => Q v s' ∧ gRg s'))) (s : gS) (hs : gRg s) (x1 : Int) (x2 : Int) (x3 : Int) (x4 : Int) (x5 : Int)  (h : (rng x1) ∧ ((¬ (1 ≤ x1 ∧ x1 ≤ 8) → Q 0 s) ∧ (1 ≤ x1 ∧ x1 ≤ 8 → (rng x2) ∧ ((¬ (0 ≤ x2 ∧ x2 ≤ 1000) → Q 0 s) ∧ (0 ≤ x2 ∧ x2 ≤ 1000 → (rng x3) ∧ ((¬ (0 ≤ x3 ∧ x3 ≤ 1000) → Q 0 s) ∧ (0 ≤ x3 ∧ x3 ≤ 1000 → (rng x4) ∧ ((¬ (0 ≤ x4 ∧ x4 ≤ 10000) → Q 0 s) ∧ (0 ≤ x4 ∧ x4 ≤ 10000 → (rng x5) ∧ ((0 ≤ x5 ∧ x5 ≤ 1000 → Q 1 (gpI (gpI (gpI (gpI (gpI s 400 6 x1) 400 7 x2) 400 8 x3) 400 9 x4) 400 10 x5)) ∧ (¬ (0 ≤ x5 ∧ x5 ≤ 1000) → Q 0 s))))))))))) : gWL X G s 0 [(0, gR G 400), (1, vi x1), (2, vi x2), (3, vi x3), (4, vi x4), (5, vi x5)] [] := by
  refine g_iload_n hX dX8_rules_0 1 rfl ?_
  refine g_iconst hX dX8_rules_1 ?_
  refine g_bipush hX dX8_rules_2 rfl ?_
  obtain ⟨h1, h⟩ := h
  refine g_cSf (As := [vi x1, vi 1, vi 8]) hX (fun l => c_X8_isIn l hX.inj s x1 1 8 hs h1 (by unfold rng; omega) (by unfold rng; omega)) cv_X8_102 (by decide) rfl (Nat.le_of_ble_eq_true rfl) dX8_rules_4 rfl (fun g2 => ?_)
  refine g_ifeq (tgt := 56) hX (gb_rng _) dX8_rules_7 (by decide) (fun c3 => ?_) (fun c3 => ?_)
  · replace h := h.1 (gb_eq0.mp c3)
    refine g_iconst hX dX8_rules_56 ?_
    exact g_zret hX hE (Or.inl rfl) dX8_rules_57 ⟨h, hs⟩
  · replace h := h.2 (gb_n0.mp c3)
    refine g_iload_n hX dX8_rules_10 2 rfl ?_
    refine g_iconst hX dX8_rules_11 ?_
    refine g_sipush hX dX8_rules_12 rfl ?_
    obtain ⟨h4, h⟩ := h
    refine g_cSf (As := [vi x2, vi 0, vi 1000]) hX (fun l => c_X8_isIn l hX.inj s x2 0 1000 hs h4 (by unfold rng; omega) (by unfold rng; omega)) cv_X8_102 (by decide) rfl (Nat.le_of_ble_eq_true rfl) dX8_rules_15 rfl (fun g5 => ?_)
    refine g_ifeq (tgt := 56) hX (gb_rng _) dX8_rules_18 (by decide) (fun c6 => ?_) (fun c6 => ?_)
    · replace h := h.1 (gb_eq0.mp c6)
      refine g_iconst hX dX8_rules_56 ?_
      exact g_zret hX hE (Or.inl rfl) dX8_rules_57 ⟨h, hs⟩
    · replace h := h.2 (gb_n0.mp c6)
      refine g_iload_n hX dX8_rules_21 3 rfl ?_
      refine g_iconst hX dX8_rules_22 ?_
      refine g_sipush hX dX8_rules_23 rfl ?_
      obtain ⟨h7, h⟩ := h
      refine g_cSf (As := [vi x3, vi 0, vi 1000]) hX (fun l => c_X8_isIn l hX.inj s x3 0 1000 hs h7 (by unfold rng; omega) (by unfold rng; omega)) cv_X8_102 (by decide) rfl (Nat.le_of_ble_eq_true rfl) dX8_rules_26 rfl (fun g8 => ?_)
      refine g_ifeq (tgt := 56) hX (gb_rng _) dX8_rules_29 (by decide) (fun c9 => ?_) (fun c9 => ?_)
      · replace h := h.1 (gb_eq0.mp c9)
        refine g_iconst hX dX8_rules_56 ?_
        exact g_zret hX hE (Or.inl rfl) dX8_rules_57 ⟨h, hs⟩
      · replace h := h.2 (gb_n0.mp c9)
        refine g_iload hX dX8_rules_32 4 rfl ?_
        refine g_iconst hX dX8_rules_34 ?_
        refine g_sipush hX dX8_rules_35 rfl ?_
        obtain ⟨h10, h⟩ := h
        refine g_cSf (As := [vi x4, vi 0, vi 10000]) hX (fun l => c_X8_isIn l hX.inj s x4 0 10000 hs h10 (by unfold rng; omega) (by unfold rng; omega)) cv_X8_102 (by decide) rfl (Nat.le_of_ble_eq_true rfl) dX8_rules_38 rfl (fun g11 => ?_)
        refine g_ifeq (tgt := 56) hX (gb_rng _) dX8_rules_41 (by decide) (fun c12 => ?_) (fun c12 => ?_)
        · replace h := h.1 (gb_eq0.mp c12)
          refine g_iconst hX dX8_rules_56 ?_
          exact g_zret hX hE (Or.inl rfl) dX8_rules_57 ⟨h, hs⟩
        · replace h := h.2 (gb_n0.mp c12)
          refine g_iload hX dX8_rules_44 5 rfl ?_
          refine g_iconst hX dX8_rules_46 ?_
          refine g_sipush hX dX8_rules_47 rfl ?_
          obtain ⟨h13, h⟩ := h
          refine g_cSf (As := [vi x5, vi 0, vi 1000]) hX (fun l => c_X8_isIn l hX.inj s x5 0 1000 hs h13 (by unfold rng; omega) (by unfold rng; omega)) cv_X8_102 (by decide) rfl (Nat.le_of_ble_eq_true rfl) dX8_rules_50 rfl (fun g14 => ?_)
          refine g_ifne (tgt := 58) hX (gb_rng _) dX8_rules_53 (by decide) (fun c15 => ?_) (fun c15 => ?_)
          · replace h := h.1 (gb_n0.mp c15)
            refine g_aload_n hX dX8_rules_58 0 rfl ?_
            refine g_iload_n hX dX8_rules_59 1 rfl ?_
            refine g_putI hX sh_400 6 rfl fl_X8_28 (fun _ _ _ e => by cases e; rfl) dX8_rules_60 ?_
            refine g_aload_n hX dX8_rules_63 0 rfl ?_
            refine g_iload_n hX dX8_rules_64 2 rfl ?_
            refine g_putI hX sh_400 7 rfl fl_X8_32 (fun _ _ _ e => by cases e; rfl) dX8_rules_65 ?_
            refine g_aload_n hX dX8_rules_68 0 rfl ?_
            refine g_iload_n hX dX8_rules_69 3 rfl ?_
            refine g_putI hX sh_400 8 rfl fl_X8_35 (fun _ _ _ e => by cases e; rfl) dX8_rules_70 ?_
            refine g_aload_n hX dX8_rules_73 0 rfl ?_
            refine g_iload hX dX8_rules_74 4 rfl ?_
            refine g_putI hX sh_400 9 rfl fl_X8_38 (fun _ _ _ e => by cases e; rfl) dX8_rules_76 ?_
            refine g_aload_n hX dX8_rules_79 0 rfl ?_
            refine g_iload hX dX8_rules_80 5 rfl ?_
            refine g_putI hX sh_400 10 rfl fl_X8_41 (fun _ _ _ e => by cases e; rfl) dX8_rules_82 ?_
            refine g_iconst hX dX8_rules_85 ?_
            exact g_zret hX hE (Or.inr rfl) dX8_rules_86 ⟨h, (gRg_I (gRg_I (gRg_I (gRg_I (gRg_I hs h1) h4) h7) h10) h13)⟩
          · replace h := h.2 (gb_eq0.mp (gnn c15))
            refine g_iconst hX dX8_rules_56 ?_
            exact g_zret hX hE (Or.inl rfl) dX8_rules_57 ⟨h, hs⟩
set_option maxRecDepth 100000 in
set_option maxHeartbeats 4000000 in
theorem c_X8_rules (l : Launch) {G : gG} (hG : gInj G) (s : gS) (x1 : Int) (x2 : Int) (x3 : Int) (x4 : Int) (x5 : Int) (p0 : gRg s) (p1 : rng x1) (p2 : rng x2) (p3 : rng x3) (p4 : rng x4) (p5 : rng x5) : gMet l G yX8_rules cX8_rules 6 (some .boolean) 2 [gR G 400, vi x1, vi x2, vi x3, vi x4, vi x5] s (gPi (fun v s' => (if (1 ≤ x1 ∧ x1 ≤ 8) ∧ (0 ≤ x2 ∧ x2 ≤ 1000) ∧ (0 ≤ x3 ∧ x3 ≤ 1000) ∧ (0 ≤ x4 ∧ x4 ≤ 10000) ∧ (0 ≤ x5 ∧ x5 ≤ 1000) then v = 1 ∧ s' = gpI (gpI (gpI (gpI (gpI s 400 6 x1) 400 7 x2) 400 8 x3) 400 9 x4) 400 10 x5 else v = 0 ∧ s' = s) ∧ gRg s')) := by
  refine gMet_of (plainFor_of_name (by decide)) hG (Nat.le_of_ble_eq_true rfl) (fun X hX hE => ?_)
  refine bk_X8_rules_0 hX hE s p0 x1 x2 x3 x4 x5  ?_
  refine ⟨p1, fun a => ?_, fun a => ⟨p2, fun b => ?_, fun b => ⟨p3, fun c => ?_, fun c => ⟨p4, fun d => ?_, fun d => ⟨p5, fun e => ?_, fun e => ?_⟩⟩⟩⟩⟩
  any_goals (rw [if_neg (by omega)]; exact ⟨rfl, rfl⟩)
  rw [if_pos ⟨a, b, c, d, e⟩]
  exact ⟨rfl, rfl⟩

