theorem fl_X0_28 : gFL RX0 28 0 5 := ⟨RX0, TX0, 13, tyX0, rfl, by decide, inG_X0, (gm_1 107 rfl rfl), tyX0_ok, nmX0, fun _ => rfl⟩
theorem fl_X0_54 : gFL RX0 54 3 2 := ⟨RX3, TX3, 3, tyX3, rfl, by decide, inG_X3, (gm_1 33 rfl rfl), tyX3_ok, nmX3, fun _ => rfl⟩
theorem fl_X0_83 : gFL RX0 83 1 0 := ⟨RX1, TX1, 5, tyX1, rfl, by decide, inG_X1, (gm_1 70 rfl rfl), tyX1_ok, nmX1, fun _ => rfl⟩
theorem fl_X0_94 : gFL RX0 94 1 4 := ⟨RX1, TX1, 5, tyX1, rfl, by decide, inG_X1, (gm_1 77 rfl rfl), tyX1_ok, nmX1, fun _ => rfl⟩
theorem cv_X0_60 : gCV RX0 60 yX0_endAt cX0_endAt 3 none 1 0 := ⟨TX0, 13, rfl, (gm_2 58 rfl rfl), (gm_2 60 rfl rfl), (gm_s 1 rfl rfl), (gm_1 5 rfl rfl), (gm_2 61 rfl rfl), ⟨by decide, by decide, by decide +kernel⟩, by decide⟩
theorem cv_X0_67 : gCV RX0 67 yX0_addUpReadings cX0_addUpReadings 5 none 3 0 := ⟨TX0, 13, rfl, (gm_2 63 rfl rfl), (gm_2 65 rfl rfl), (gm_s 2 rfl rfl), (gm_1 5 rfl rfl), (gm_2 66 rfl rfl), ⟨by decide, by decide, by decide +kernel⟩, by decide⟩
theorem cv_X0_76 : gCV RX0 76 yX0_splitByLength cX0_splitByLength 7 none 3 0 := ⟨TX0, 13, rfl, (gm_2 77 rfl rfl), (gm_2 79 rfl rfl), (gm_s 3 rfl rfl), (gm_1 5 rfl rfl), (gm_2 80 rfl rfl), ⟨by decide, by decide, by decide +kernel⟩, by decide⟩
theorem cv_X0_86 : gCV RX0 86 yX0_findLeast cX0_findLeast 8 (some .int) 4 0 := ⟨TX0, 13, rfl, (gm_2 83 rfl rfl), (gm_2 85 rfl rfl), (gm_s 4 rfl rfl), (gm_1 5 rfl rfl), (gm_2 86 rfl rfl), ⟨by decide, by decide, by decide +kernel⟩, by decide⟩
theorem cv_X0_90 : gCV RX0 90 yX0_layForward cX0_layForward 7 none 3 0 := ⟨TX0, 13, rfl, (gm_2 87 rfl rfl), (gm_2 89 rfl rfl), (gm_s 5 rfl rfl), (gm_1 5 rfl rfl), (gm_2 90 rfl rfl), ⟨by decide, by decide, by decide +kernel⟩, by decide⟩
theorem cv_X0_97 : gCV RX0 97 yX0_hear cX0_hear 8 none 3 0 := ⟨TX0, 13, rfl, (gm_2 99 rfl rfl), (gm_2 101 rfl rfl), (gm_s 7 rfl rfl), (gm_1 5 rfl rfl), (gm_2 102 rfl rfl), ⟨by decide, by decide, by decide +kernel⟩, by decide⟩
theorem gsum_shift (f : Int → Int) {i : Int} (h0 : 0 ≤ i) : ∀ t : Int, 0 ≤ t → gsum f (i + t) = gsum f i + gsum (fun q => f (i + q)) t := by
  intro t ht
  have := giter_ind (f := fun q a => a + f (i + q)) (a := (0 : Int)) (N := t) (fun q a => gsum f (i + q) = gsum f i + a) (by rw [Int.add_zero, Int.add_zero]) (fun q a q0 _ ha => by
    rw [show i + (q + 1) = (i + q) + 1 by omega, gsum_s _ (by omega), ha]; omega) t ht (Int.le_refl t)
  exact this
theorem gcell {M : Nat → Int} {rd pt bt S B' w : Int → Int} {k i all v due : Int} (hS : ∀ j : Int, 0 ≤ j → j ≤ all → S j = gsum (fun q => grc (M 1) (rd q) (pt k)) j) (hw : ∀ j : Int, 0 ≤ j → j ≤ all → w j = (S j + B' j) - M 2 * j) (hdue : due = bt k * M 0) (hi : 0 ≤ i) (hia : i ≤ all)
    (h : gMn (fun j => (w j + M 2 * j) + (M 2 * gabs (j - (i + due)) + (if j = i then M 3 else 0))) i all v) : gMn (fun t => gCst M rd pt bt k i t + B' (i + t)) 0 (all - i) (v - S i) := by
  have h2 := h.shift (g := fun t => gCst M rd pt bt k i t + B' (i + t)) i (-(S i)) (fun t t1 t2 => by
    unfold gCst gsc
    have e1 := hw (i + t) (by omega) t2
    have e2 := hS (i + t) (by omega) t2
    have e3 := hS i hi hia
    have e4 := gsum_shift (fun q => grc (M 1) (rd q) (pt k)) hi t (by omega)
    have e5 : i + t - (i + due) = t - bt k * M 0 := by rw [hdue]; omega
    have e6 : (if i + t = i then M 3 else 0) = (if t = 0 then M 3 else 0) := by
      by_cases q : t = 0
      · rw [if_pos q, if_pos (by omega)]
      · rw [if_neg q, if_neg (by omega)]
    rw [e5, e6]
    omega)
  rw [show i - i = 0 by omega] at h2
  exact h2
theorem glst_congr {off off' : Int → Int} {n : Int} (h : ∀ k : Int, 0 ≤ k → k < n → off k = off' k) (h0 : 0 ≤ n) : glst off n = glst off' n := giter_congr h0 (fun i x i0 i1 => by rw [h i i0 i1])
theorem gfrs_congr {off off' : Int → Int} {n : Int} (h : ∀ k : Int, 0 ≤ k → k < n → off k = off' k) (h0 : 0 ≤ n) : gfrs off n = gfrs off' n := giter_congr h0 (fun i x i0 i1 => by rw [h i i0 i1])
theorem gflt_congr {off off' take take' : Int → Int} {n ear : Int} (h : ∀ k : Int, 0 ≤ k → k < n → off k = off' k) (ht : ∀ k : Int, 0 ≤ k → k < n → take k = take' k) {k : Int} (h0 : 0 ≤ k) (h1 : k < n) : gflt off take ear k = gflt off' take' ear k := by
  unfold gflt
  rw [h k h0 h1, ht k h0 h1, glst_congr (off := off) (off' := off') (n := k) (fun i i0 i1 => h i i0 (by omega)) h0]
theorem gsunk_congr {off off' : Int → Int} {n : Int} (h : ∀ k : Int, 0 ≤ k → k < n → off k = off' k) (h0 : 0 ≤ n) : gsunk off n = gsunk off' n := by
  unfold gsunk
  rw [glst_congr h h0, gfrs_congr h h0]
/-- the laying that the class keeps is the one of piece k1 and recording k2 -/
def gLaid (t : gS) (k1 k2 : Int) : Prop := t.1 4 4 = t.1 k1 2 ∧ ∃ (B : Int → Int → Int) (pos : Int → Int), gDP (t.1 3) (t.2 (k2 + 10)) (t.2 (k1 + 10)) (t.2 (k1 + 20)) (t.1 k1 2) (t.1 k2 1) B ∧ gTk (t.1 3) (t.2 (k2 + 10)) (t.2 (k1 + 10)) (t.2 (k1 + 20)) (t.1 k1 2) (t.1 k2 1) B pos (t.2 10) ∧ t.1 4 5 = B 0 0 ∧ (∀ k : Int, 0 ≤ k → k < t.1 k1 2 → t.2 9 k = (if t.2 10 k = 0 then -1 else pos k) ∧ t.2 11 k = gof (fun q => t.2 (k2 + 10) (pos k + q)) (t.2 (k1 + 10) k) (t.2 10 k) ∧ t.2 12 k = gflt (fun k => gof (fun q => t.2 (k2 + 10) (pos k + q)) (t.2 (k1 + 10) k) (t.2 10 k)) (t.2 10) (t.1 3 4) k) ∧ t.1 4 6 = gsunk (fun k => gof (fun q => t.2 (k2 + 10) (pos k + q)) (t.2 (k1 + 10) k) (t.2 10 k)) (t.1 k1 2) ∧ t.1 4 7 = gsum (fun k => gflt (fun k => gof (fun q => t.2 (k2 + 10) (pos k + q)) (t.2 (k1 + 10) k) (t.2 10 k)) (t.2 10) (t.1 3 4) k) (t.1 k1 2)
def gfound (s t : gS) (k1 k2 : Int) : Prop := (∀ (q : Int) (j : Nat), q ≠ 4 → t.1 q j = s.1 q j) ∧ t.1 4 8 = s.1 4 8 ∧ (∀ q : Int, ¬ (9 ≤ q ∧ q ≤ 12) → ¬ (14 ≤ q ∧ q ≤ 16) → ¬ (200 ≤ q ∧ q < 225) → t.2 q = s.2 q) ∧ gLaid t k1 k2
/-- the rows of least costs from k + 1 on, in the state t -/
def gRows (s t : gS) (k1 k2 k : Int) : Prop := (∀ i : Int, 0 ≤ i → i ≤ s.1 k2 1 → t.2 (200 + s.1 k1 2) i = if i = s.1 k2 1 then 0 else 1000000000) ∧ (∀ q i : Int, k < q → q < s.1 k1 2 → 0 ≤ i → i ≤ s.1 k2 1 → gMn (fun a => gCst (s.1 3) (s.2 (k2 + 10)) (s.2 (k1 + 10)) (s.2 (k1 + 20)) q i a + t.2 (200 + (q + 1)) (i + a)) 0 (s.1 k2 1 - i) (t.2 (200 + q) i)) ∧ ∀ q : Int, k < q → q ≤ s.1 k1 2 → (∀ i : Int, 0 ≤ i → i ≤ s.1 k2 1 → 0 ≤ t.2 (200 + q) i ∧ t.2 (200 + q) i ≤ 1000000000) ∧ t.2 (200 + q) (s.1 k2 1) ≤ 74000 * (s.1 k1 2 - q)
set_option maxRecDepth 100000 in
set_option maxHeartbeats 4000000 in
theorem bk_X0_find_0 {X : gX} {G : gG} (hX : gOk X G cX0_find 7 RX0 none 5) {Q : gS → Prop} (hE : gEnd X G (gPv (fun s' => Q s' ∧ gRg s'))) (s : gS) (hs : gRg s) (k1 : Int) (k2 : Int) (hk1 : 100 ≤ k1 ∧ k1 < 106) (hk2 : 130 ≤ k2 ∧ k2 < 140) (h : (0 ≤ (s.1 k2 1) ∧ (s.1 k2 1) ≤ 120) ∧ (0 ≤ ((gpI s 4 4 (s.1 k1 2)).1 4 4) ∧ ((gpI s 4 4 (s.1 k1 2)).1 4 4) ≤ 24) ∧ (∀ s3 : gS, ((goff (gpI s 4 4 (s.1 k1 2)) s3 (200 + (gpI s 4 4 (s.1 k1 2)).1 4 4) ∧ ∀ i : Int, 0 ≤ i → i ≤ (s.1 k2 1) → s3.2 (200 + (gpI s 4 4 (s.1 k1 2)).1 4 4) i = if i = (s.1 k2 1) then 0 else 1000000000) ∧ gRg s3) → gWL X G s3 24 [(0, gR G 4), (1, gR G k1), (2, gR G k2), (3, gR G 3), (4, vi ((s3.1 4 4) - 1))] [])) : gWL X G s 0 [(0, gR G 4), (1, gR G k1), (2, gR G k2), (3, gR G 3)] [] := by
  refine g_aload_n hX dX0_find_0 0 rfl ?_
  refine g_aload_n hX dX0_find_1 1 rfl ?_
  refine g_getI hX (sh_piece (by omega) (by omega)) 2 rfl fl_X0_54 dX0_find_2 ?_
  refine g_putI hX sh_4 4 rfl fl_X0_24 (fun _ _ _ e => by cases e; rfl) dX0_find_5 ?_
  refine g_aload_n hX dX0_find_8 0 rfl ?_
  refine g_aload_n hX dX0_find_9 2 rfl ?_
  refine g_getI hX (sh_recording (by omega) (by omega)) 1 rfl fl_X0_57 dX0_find_10 ?_
  refine g_top (gpI_nj (by decide)) ?_
  obtain ⟨h1, h⟩ := h
  obtain ⟨h2, h⟩ := h
  refine g_cVu (As := [vi (s.1 k2 1)]) hX (fun l => c_X0_endAt l hX.inj (gpI s 4 4 (s.1 k1 2)) (s.1 k2 1) (gRg_I hs (hs.1 _ _)) h1 h2) sh_4 cv_X0_60 (by decide) rfl (Nat.le_of_ble_eq_true rfl) dX0_find_13 rfl (fun s3 q4 => ?_)
  replace h := h s3 q4
  have rs3 : gRg s3 := q4.2
  refine g_aload_n hX dX0_find_16 0 rfl ?_
  refine g_getI hX sh_4 4 rfl fl_X0_24 dX0_find_17 ?_
  refine g_iconst hX dX0_find_20 ?_
  refine g_isub hX dX0_find_21 ?_
  refine g_istore (loc' := [(4, vi ((s3.1 4 4) - 1)), (0, gR G 4), (1, gR G k1), (2, gR G k2), (3, gR G 3)]) hX dX0_find_22 (by decide) rfl ?_
  exact g_sub [1, 2, 3, 4, 0] rfl h
set_option maxRecDepth 100000 in
set_option maxHeartbeats 4000000 in
theorem bk_X0_find_24 {X : gX} {G : gG} (hX : gOk X G cX0_find 7 RX0 none 5) {Q : gS → Prop} (hE : gEnd X G (gPv (fun s' => Q s' ∧ gRg s'))) (s : gS) (hs : gRg s) (k1 : Int) (k2 : Int) (x4 : Int) (hk1 : 100 ≤ k1 ∧ k1 < 106) (hk2 : 130 ≤ k2 ∧ k2 < 140) (h : (rng x4) ∧ ((x4 < 0 → (gMs (gpI s 4 5 (s.2 (200 + 0) 0))) ∧ (100 ≤ k1 ∧ k1 < 106) ∧ (130 ≤ k2 ∧ k2 < 140) ∧ (gPc (gpI s 4 5 (s.2 (200 + 0) 0)) k1) ∧ (gRd (gpI s 4 5 (s.2 (200 + 0) 0)) k2) ∧ ((gpI s 4 5 (s.2 (200 + 0) 0)).1 4 4 = (gpI s 4 5 (s.2 (200 + 0) 0)).1 k1 2) ∧ (∀ k : Int, 0 ≤ k → k < (gpI s 4 5 (s.2 (200 + 0) 0)).1 k1 2 → gBr (gpI s 4 5 (s.2 (200 + 0) 0)) (200 + (k + 1)) ((gpI s 4 5 (s.2 (200 + 0) 0)).1 k2 1)) ∧ (gDPs (gpI s 4 5 (s.2 (200 + 0) 0)) k1 k2) ∧ (∀ s12 : gS, ((goff2 (gpI s 4 5 (s.2 (200 + 0) 0)) s12 9 10 ∧ ∃ pos : Int → Int, gTks (gpI s 4 5 (s.2 (200 + 0) 0)) k1 k2 pos (s12.2 10) ∧ ∀ k : Int, 0 ≤ k → k < (gpI s 4 5 (s.2 (200 + 0) 0)).1 k1 2 → s12.2 9 k = if s12.2 10 k = 0 then -1 else pos k) ∧ gRg s12) → (gPc s12 k1) ∧ (gRd s12 k2) ∧ (s12.1 4 4 = s12.1 k1 2) ∧ (0 ≤ (s12.1 3 4) ∧ (s12.1 3 4) ≤ 1000) ∧ (∀ k : Int, 0 ≤ k → k < s12.1 k1 2 → gSp s12 k2 k) ∧ (∀ s19 : gS, ((gheard s12 s19 k1 k2 (s12.1 3 4)) ∧ gRg s19) → Q s19))) ∧ (0 ≤ x4 → (0 ≤ x4 ∧ x4 < 24) ∧ (gMs s) ∧ (130 ≤ k2 ∧ k2 < 140) ∧ (0 ≤ (s.2 (k1 + 10) x4) ∧ (s.2 (k1 + 10) x4) ≤ 4800) ∧ (gRd s k2) ∧ (∀ s26 : gS, ((goff s s26 14 ∧ ∀ i : Int, 0 ≤ i → i ≤ s.1 k2 1 → s26.2 14 i = gsum (fun q => grc (s.1 3 1) (s.2 (k2 + 10) q) (s.2 (k1 + 10) x4)) i) ∧ gRg s26) → (0 ≤ (x4 + 1) ∧ (x4 + 1) < 25) ∧ (200 ≤ (200 + (x4 + 1)) ∧ (200 + (x4 + 1)) < 225) ∧ (0 ≤ (s26.1 k2 1) ∧ (s26.1 k2 1) ≤ 120) ∧ (0 ≤ (s26.1 3 2) ∧ (s26.1 3 2) ≤ 1000) ∧ (gSB s26 (200 + (x4 + 1)) (s26.1 k2 1)) ∧ (∀ s34 : gS, ((goff2 s26 s34 15 16 ∧ ∀ i : Int, 0 ≤ i → i ≤ (s26.1 k2 1) → s34.2 15 i = (s26.2 14 i + s26.2 (200 + (x4 + 1)) i) - (s26.1 3 2) * i ∧ gMn (fun j => (s26.2 14 j + s26.2 (200 + (x4 + 1)) j) + (s26.1 3 2) * j) i (s26.1 k2 1) (s34.2 16 i)) ∧ gRg s34) → gWL X G s34 80 [(0, gR G 4), (1, gR G k1), (2, gR G k2), (3, gR G 3), (4, vi x4), (5, vi ((s34.2 (k1 + 20) x4) * (s34.1 3 0))), (6, vi 0)] []))))) : gWL X G s 24 [(0, gR G 4), (1, gR G k1), (2, gR G k2), (3, gR G 3), (4, vi x4)] [] := by
  refine g_iload hX dX0_find_24 4 rfl ?_
  obtain ⟨h1, h⟩ := h
  refine g_iflt (tgt := 135) hX h1 dX0_find_26 (by decide) (fun c2 => ?_) (fun c2 => ?_)
  · replace h := h.1 c2
    refine g_aload_n hX dX0_find_135 0 rfl ?_
    refine g_aload_n hX dX0_find_136 0 rfl ?_
    refine g_getR hX sh_4 9 rfl fl_X0_42 dX0_find_137 ?_
    refine g_iconst hX dX0_find_140 ?_
    have k3 := (by omega)
    refine g_aald (kd := 4) (q := (200 + 0)) hX sh_13 rfl rfl (by omega) (by decide) (by show 200 + ((0 : Int).toNat : Int) = _; omega) dX0_find_141 ?_
    refine g_iconst hX dX0_find_142 ?_
    refine g_iald hX (sh_bestrow (by omega) (by omega)) (by omega) (by decide) dX0_find_143 ?_
    refine g_putI hX sh_4 5 rfl fl_X0_28 (fun _ _ _ e => by cases e; rfl) dX0_find_144 ?_
    refine g_aload_n hX dX0_find_147 0 rfl ?_
    refine g_aload_n hX dX0_find_148 1 rfl ?_
    refine g_aload_n hX dX0_find_149 2 rfl ?_
    refine g_aload_n hX dX0_find_150 3 rfl ?_
    obtain ⟨h4, h⟩ := h
    obtain ⟨h5, h⟩ := h
    obtain ⟨h6, h⟩ := h
    obtain ⟨h7, h⟩ := h
    obtain ⟨h8, h⟩ := h
    obtain ⟨h9, h⟩ := h
    obtain ⟨h10, h⟩ := h
    obtain ⟨h11, h⟩ := h
    refine g_cVu (As := [gR G k1, gR G k2, gR G 3]) hX (fun l => c_X0_layForward l hX.inj (gpI s 4 5 (s.2 (200 + 0) 0)) k1 k2 3 (gRg_I hs (hs.2 _ _)) h4 h5 h6 h7 h8 h9 h10 h11) sh_4 cv_X0_90 (by decide) rfl (Nat.le_of_ble_eq_true rfl) dX0_find_151 rfl (fun s12 q13 => ?_)
    replace h := h s12 q13
    have rs12 : gRg s12 := q13.2
    refine g_aload_n hX dX0_find_154 0 rfl ?_
    refine g_aload_n hX dX0_find_155 1 rfl ?_
    refine g_aload_n hX dX0_find_156 2 rfl ?_
    refine g_aload_n hX dX0_find_157 3 rfl ?_
    refine g_getI hX sh_3 4 rfl fl_X0_94 dX0_find_158 ?_
    obtain ⟨h14, h⟩ := h
    obtain ⟨h15, h⟩ := h
    obtain ⟨h16, h⟩ := h
    obtain ⟨h17, h⟩ := h
    obtain ⟨h18, h⟩ := h
    refine g_cVu (As := [gR G k1, gR G k2, vi (s12.1 3 4)]) hX (fun l => c_X0_hear l hX.inj s12 k1 k2 (s12.1 3 4) rs12 h5 h6 h14 h15 h16 h17 h18) sh_4 cv_X0_97 (by decide) rfl (Nat.le_of_ble_eq_true rfl) dX0_find_161 rfl (fun s19 q20 => ?_)
    replace h := h s19 q20
    have rs19 : gRg s19 := q20.2
    exact g_vret hX hE dX0_find_164 ⟨h, rs19⟩
  · replace h := h.2 (Int.not_lt.mp c2)
    refine g_aload_n hX dX0_find_29 0 rfl ?_
    refine g_aload_n hX dX0_find_30 2 rfl ?_
    refine g_aload_n hX dX0_find_31 3 rfl ?_
    refine g_aload_n hX dX0_find_32 1 rfl ?_
    refine g_getR hX (sh_piece (by omega) (by omega)) 0 rfl fl_X0_64 dX0_find_33 ?_
    refine g_iload hX dX0_find_36 4 rfl ?_
    obtain ⟨h21, h⟩ := h
    refine g_iald hX (sh_pitches (by omega) (by omega)) h21 (by decide) dX0_find_38 ?_
    obtain ⟨h22, h⟩ := h
    obtain ⟨h23, h⟩ := h
    obtain ⟨h24, h⟩ := h
    obtain ⟨h25, h⟩ := h
    refine g_cVu (As := [gR G k2, gR G 3, vi (s.2 (k1 + 10) x4)]) hX (fun l => c_X0_addUpReadings l hX.inj s k2 3 (s.2 (k1 + 10) x4) hs h22 h23 h24 h25) sh_4 cv_X0_67 (by decide) rfl (Nat.le_of_ble_eq_true rfl) dX0_find_39 rfl (fun s26 q27 => ?_)
    replace h := h s26 q27
    have rs26 : gRg s26 := q27.2
    refine g_aload_n hX dX0_find_42 0 rfl ?_
    refine g_aload_n hX dX0_find_43 0 rfl ?_
    refine g_getR hX sh_4 9 rfl fl_X0_42 dX0_find_44 ?_
    refine g_iload hX dX0_find_47 4 rfl ?_
    refine g_iconst hX dX0_find_49 ?_
    refine g_iadd hX dX0_find_50 ?_
    obtain ⟨h28, h⟩ := h
    have k29 := h28
    refine g_aald (kd := 4) (q := (200 + (x4 + 1))) hX sh_13 rfl rfl h28 (by decide) (by show 200 + (((x4 + 1) : Int).toNat : Int) = _; omega) dX0_find_51 ?_
    refine g_aload_n hX dX0_find_52 2 rfl ?_
    refine g_getI hX (sh_recording (by omega) (by omega)) 1 rfl fl_X0_57 dX0_find_53 ?_
    refine g_aload_n hX dX0_find_56 3 rfl ?_
    refine g_getI hX sh_3 2 rfl fl_X0_71 dX0_find_57 ?_
    obtain ⟨h30, h⟩ := h
    obtain ⟨h31, h⟩ := h
    obtain ⟨h32, h⟩ := h
    obtain ⟨h33, h⟩ := h
    refine g_cVu (As := [gR G (200 + (x4 + 1)), vi (s26.1 k2 1), vi (s26.1 3 2)]) hX (fun l => c_X0_splitByLength l hX.inj s26 (200 + (x4 + 1)) (s26.1 k2 1) (s26.1 3 2) rs26 h30 h31 h32 h33) sh_4 cv_X0_76 (by decide) rfl (Nat.le_of_ble_eq_true rfl) dX0_find_60 rfl (fun s34 q35 => ?_)
    replace h := h s34 q35
    have rs34 : gRg s34 := q35.2
    refine g_aload_n hX dX0_find_63 1 rfl ?_
    refine g_getR hX (sh_piece (by omega) (by omega)) 1 rfl fl_X0_80 dX0_find_64 ?_
    refine g_iload hX dX0_find_67 4 rfl ?_
    refine g_iald hX (sh_beats (by omega) (by omega)) h21 (by decide) dX0_find_69 ?_
    refine g_aload_n hX dX0_find_70 3 rfl ?_
    refine g_getI hX sh_3 0 rfl fl_X0_83 dX0_find_71 ?_
    refine g_imul hX dX0_find_74 ?_
    refine g_istore (loc' := [(5, vi ((s34.2 (k1 + 20) x4) * (s34.1 3 0))), (0, gR G 4), (1, gR G k1), (2, gR G k2), (3, gR G 3), (4, vi x4)]) hX dX0_find_75 (by decide) rfl ?_
    refine g_iconst hX dX0_find_77 ?_
    refine g_istore (loc' := [(6, vi 0), (5, vi ((s34.2 (k1 + 20) x4) * (s34.1 3 0))), (0, gR G 4), (1, gR G k1), (2, gR G k2), (3, gR G 3), (4, vi x4)]) hX dX0_find_78 (by decide) rfl ?_
    exact g_sub [2, 3, 4, 5, 6, 1, 0] rfl h
set_option maxRecDepth 100000 in
set_option maxHeartbeats 4000000 in
theorem bk_X0_find_80 {X : gX} {G : gG} (hX : gOk X G cX0_find 7 RX0 none 5) {Q : gS → Prop} (hE : gEnd X G (gPv (fun s' => Q s' ∧ gRg s'))) (s : gS) (hs : gRg s) (k1 : Int) (k2 : Int) (x4 : Int) (x5 : Int) (x6 : Int) (hk1 : 100 ≤ k1 ∧ k1 < 106) (hk2 : 130 ≤ k2 ∧ k2 < 140) (h : (rng x6) ∧ (((s.1 k2 1) < x6 → gWL X G s 24 [(0, gR G 4), (1, gR G k1), (2, gR G k2), (3, gR G 3), (4, vi (x4 - 1))] []) ∧ (x6 ≤ (s.1 k2 1) → (0 ≤ x4 ∧ x4 < 25) ∧ (gMs s) ∧ (0 ≤ x6 ∧ x6 < (x6 + x5)) ∧ ((x6 + x5) ≤ x6 + 64) ∧ (x6 ≤ (s.1 k2 1) ∧ (s.1 k2 1) ≤ 120) ∧ (gTb s (s.1 k2 1)) ∧ (∀ (v12 : Int) (s10 : gS), ((gMn (fun j => (s.2 15 j + (s.1 3 2) * j) + ((s.1 3 2) * gabs (j - (x6 + x5)) + (if j = x6 then s.1 3 3 else 0))) x6 (s.1 k2 1) v12 ∧ s10 = s) ∧ gRg s10) → (0 ≤ x6 ∧ x6 < 121) ∧ (rng (v12 - (s10.2 14 x6))) ∧ gWL X G (gpA s10 (200 + x4) x6 (v12 - (s10.2 14 x6))) 80 [(0, gR G 4), (1, gR G k1), (2, gR G k2), (3, gR G 3), (4, vi x4), (5, vi x5), (6, vi (x6 + 1))] [])))) : gWL X G s 80 [(0, gR G 4), (1, gR G k1), (2, gR G k2), (3, gR G 3), (4, vi x4), (5, vi x5), (6, vi x6)] [] := by
  refine g_iload hX dX0_find_80 6 rfl ?_
  refine g_aload_n hX dX0_find_82 2 rfl ?_
  refine g_getI hX (sh_recording (by omega) (by omega)) 1 rfl fl_X0_57 dX0_find_83 ?_
  obtain ⟨h1, h⟩ := h
  refine g_icgt (tgt := 129) hX h1 (hs.1 _ _) dX0_find_86 (by decide) (fun c2 => ?_) (fun c2 => ?_)
  · replace h := h.1 c2
    refine g_iinc (loc' := [(4, vi (x4 - 1)), (0, gR G 4), (1, gR G k1), (2, gR G k2), (3, gR G 3), (5, vi x5), (6, vi x6)]) hX dX0_find_129 4 rfl (by decide) rfl ?_
    refine g_goto (tgt := 24) hX dX0_find_132 (by decide) ?_
    exact g_sub [1, 2, 3, 4, 0] rfl h
  · replace h := h.2 (Int.not_lt.mp c2)
    refine g_aload_n hX dX0_find_89 0 rfl ?_
    refine g_getR hX sh_4 9 rfl fl_X0_42 dX0_find_90 ?_
    refine g_iload hX dX0_find_93 4 rfl ?_
    obtain ⟨h3, h⟩ := h
    have k4 := h3
    refine g_aald (kd := 4) (q := (200 + x4)) hX sh_13 rfl rfl h3 (by decide) (by show 200 + ((x4 : Int).toNat : Int) = _; omega) dX0_find_95 ?_
    refine g_iload hX dX0_find_96 6 rfl ?_
    refine g_aload_n hX dX0_find_98 0 rfl ?_
    refine g_iload hX dX0_find_99 6 rfl ?_
    refine g_iload hX dX0_find_101 6 rfl ?_
    refine g_iload hX dX0_find_103 5 rfl ?_
    refine g_iadd hX dX0_find_105 ?_
    refine g_aload_n hX dX0_find_106 2 rfl ?_
    refine g_getI hX (sh_recording (by omega) (by omega)) 1 rfl fl_X0_57 dX0_find_107 ?_
    refine g_aload_n hX dX0_find_110 3 rfl ?_
    obtain ⟨h5, h⟩ := h
    obtain ⟨h6, h⟩ := h
    obtain ⟨h7, h⟩ := h
    obtain ⟨h8, h⟩ := h
    obtain ⟨h9, h⟩ := h
    refine g_cVr (As := [vi x6, vi (x6 + x5), vi (s.1 k2 1), gR G 3]) hX (fun l => c_X0_findLeast l hX.inj s x6 (x6 + x5) (s.1 k2 1) 3 hs h5 h6 h7 h8 h9) sh_4 cv_X0_86 (by decide) rfl (Nat.le_of_ble_eq_true rfl) dX0_find_111 rfl (fun v12 s10 q11 => ?_)
    replace h := h v12 s10 q11
    have rs10 : gRg s10 := q11.2
    refine g_aload_n hX dX0_find_114 0 rfl ?_
    refine g_getR hX sh_4 10 rfl fl_X0_45 dX0_find_115 ?_
    refine g_iload hX dX0_find_118 6 rfl ?_
    obtain ⟨h13, h⟩ := h
    refine g_iald hX sh_14 h13 (by decide) dX0_find_120 ?_
    refine g_isub hX dX0_find_121 ?_
    obtain ⟨h14, h⟩ := h
    refine g_iast hX (sh_bestrow (by omega) (by omega)) h13 (by decide) dX0_find_122 ?_
    refine g_iinc (loc' := [(6, vi (x6 + 1)), (0, gR G 4), (1, gR G k1), (2, gR G k2), (3, gR G 3), (4, vi x4), (5, vi x5)]) hX dX0_find_123 6 rfl (by decide) rfl ?_
    refine g_goto (tgt := 80) hX dX0_find_126 (by decide) ?_
    exact g_sub [1, 2, 3, 4, 5, 6, 0] rfl h
set_option maxRecDepth 100000 in
set_option maxHeartbeats 4000000 in
theorem c_X0_find (l : Launch) {G : gG} (hG : gInj G) (s : gS) (k1 : Int) (k2 : Int) (_ : Int) (p0 : gRg s) (p1 : gMs s) (p2 : 100 ≤ k1 ∧ k1 < 106) (p3 : 130 ≤ k2 ∧ k2 < 140) (p4 : gPc s k1) (p5 : gRd s k2) : gMet l G yX0_find cX0_find 7 none 5 [gR G 4, gR G k1, gR G k2, gR G 3] s (gPv (fun s' => (gfound s s' k1 k2) ∧ gRg s')) := by
  refine gMet_of (plainFor_of_name (by decide)) hG (Nat.le_of_ble_eq_true rfl) (fun X hX hE => ?_)
  refine bk_X0_find_0 hX hE s p0 k1 k2 p2 p3 ?_
  have hps := p4.1
  have hrd := p5.1
  obtain ⟨m0, m1, m2, m3, m4⟩ := p1
  have e44 : (gpI s 4 4 (s.1 k1 2)).1 4 4 = s.1 k1 2 := gpI_eq
  refine ⟨hrd, by rw [e44]; exact hps, fun s3 h3 => ?_⟩
  rw [e44] at h3
  obtain ⟨⟨ho3, hrow3⟩, hg3⟩ := h3
  have e31 : ∀ (q : Int) (j : Nat), ¬ (q = 4 ∧ j = 4) → s3.1 q j = s.1 q j := fun q j hq => by rw [ho3.1]; exact if_neg hq
  have e344 : s3.1 4 4 = s.1 k1 2 := by rw [ho3.1]; exact gpI_eq
  rw [e344]
  -- the notes, from the last back
  refine gloopD (α := gS) (lo := -1) (fun k t => k < s.1 k1 2 ∧ gRg t ∧ (∀ (q : Int) (j : Nat), ¬ (q = 4 ∧ j = 4) → t.1 q j = s.1 q j) ∧ t.1 4 4 = s.1 k1 2 ∧ (∀ q : Int, ¬ (14 ≤ q ∧ q ≤ 16) → ¬ (200 ≤ q ∧ q < 225) → t.2 q = s.2 q) ∧ gRows s t k1 k2 k) (fun k t => gWL X G t 24 [(0, gR G 4), (1, gR G k1), (2, gR G k2), (3, gR G 3), (4, vi k)] []) ?_ ?_ (s.1 k1 2 - 1) s3 (by omega) ⟨by omega, hg3, e31, e344, fun q _ h2 => by
      have := ho3.2 q (by omega)
      exact this, hrow3, fun q i a b => by omega, fun q a b => ?_⟩
  · intro k t hk ⟨hkn, hg, e1, e4, e2, hr1, hr2, hr3⟩ next
    have et3 : t.1 3 = s.1 3 := by funext j; exact e1 3 j (by omega)
    have etk2 : t.1 k2 1 = s.1 k2 1 := e1 k2 1 (by omega)
    have etr : t.2 (k2 + 10) = s.2 (k2 + 10) := e2 _ (by omega) (by omega)
    have etp : t.2 (k1 + 10) = s.2 (k1 + 10) := e2 _ (by omega) (by omega)
    have etb : t.2 (k1 + 20) = s.2 (k1 + 20) := e2 _ (by omega) (by omega)
    have hpk := p4.2 k (by omega) hkn
    refine bk_X0_find_24 hX hE t hg k1 k2 k p2 p3 ⟨rng_of (by omega) (by omega), fun h => by omega, fun _ => ⟨by omega, by unfold gMs; rw [et3]; exact ⟨m0, m1, m2, m3, m4⟩, p3, by rw [etp]; exact hpk.1, by unfold gRd; rw [etk2, etr]; exact p5, fun a ha => ?_⟩⟩
    obtain ⟨⟨hoa, hSa⟩, hga⟩ := ha
    rw [et3, etk2, etr, etp] at hSa
    have ea1 : a.1 = t.1 := hoa.1
    have hSb : ∀ i : Int, 0 ≤ i → i ≤ s.1 k2 1 → 0 ≤ a.2 14 i ∧ a.2 14 i ≤ 120000 := by
      intro i i0 i1
      have := gsum_bd (f := fun q => grc (s.1 3 1) (s.2 (k2 + 10) q) (s.2 (k1 + 10) k)) (n := i) (lo := 0) (hi := 1000) i0 (fun q _ _ => grc_bd m1)
      rw [hSa i i0 i1]; omega
    have eaB : ∀ q : Int, 0 ≤ q → a.2 (200 + q) = t.2 (200 + q) := fun q q0 => hoa.2 _ (by omega)
    have hrow1 := hr3 (k + 1) (by omega) (by omega)
    refine ⟨by omega, by omega, by rw [ea1, etk2]; exact hrd, by rw [ea1, et3]; exact m2, fun i i0 i1 => ?_, fun b hb => ?_⟩
    · rw [ea1, etk2] at i1
      rw [eaB _ (by omega)]
      exact ⟨hSb i i0 i1, hrow1.1 i i0 i1⟩
    obtain ⟨⟨hob, hSplit⟩, hgb⟩ := hb
    rw [ea1, etk2, et3, eaB _ (by omega)] at hSplit
    have eb1 : b.1 = t.1 := hob.1.trans ea1
    have eb14 : b.2 14 = a.2 14 := hob.2 _ (by decide) (by decide)
    have ebB : ∀ q : Int, 0 ≤ q → b.2 (200 + q) = t.2 (200 + q) := fun q q0 => (hob.2 _ (by omega) (by omega)).trans (eaB q q0)
    have ebb : b.2 (k1 + 20) = s.2 (k1 + 20) := (hob.2 _ (by omega) (by omega)).trans ((hoa.2 _ (by omega)).trans etb)
    rw [ebb, eb1, et3]
    have hdue := gmul_bd (a := s.2 (k1 + 20) k) (b := s.1 3 0) (A := 8) (B := 8) (by omega) (by omega)
    have hdue1 : 1 ≤ s.2 (k1 + 20) k * s.1 3 0 := Int.le_trans (by omega) (Int.mul_le_mul (a := 1) (b := 1) hpk.2.1 m0.1 (by omega) (by omega))
    have hst : ∀ j : Int, 0 ≤ j → j ≤ 120 → 0 ≤ s.1 3 2 * j ∧ s.1 3 2 * j ≤ 120000 := fun j j0 j1 => gmul_bd (A := 1000) (B := 120) m2 ⟨j0, j1⟩
    -- the readings from which the note may begin
    refine gloop (α := gS) (hi := s.1 k2 1 + 1) (fun i u => 0 ≤ i ∧ gRg u ∧ u.1 = t.1 ∧ (∀ q : Int, q ≠ 200 + k → u.2 q = b.2 q) ∧ ∀ j : Int, 0 ≤ j → j < i → gMn (fun a => gCst (s.1 3) (s.2 (k2 + 10)) (s.2 (k1 + 10)) (s.2 (k1 + 20)) k j a + t.2 (200 + (k + 1)) (j + a)) 0 (s.1 k2 1 - j) (u.2 (200 + k) j)) (fun i u => gWL X G u 80 [(0, gR G 4), (1, gR G k1), (2, gR G k2), (3, gR G 3), (4, vi k), (5, vi (s.2 (k1 + 20) k * s.1 3 0)), (6, vi i)] []) ?_ ?_ 0 b (by omega) ⟨by omega, hgb, eb1, fun _ _ => rfl, fun j j0 j1 => by omega⟩
    · intro i u hi ⟨hi0, hgu, eu1, eu2, hcells⟩ next2
      have eu14 : u.2 14 = a.2 14 := (eu2 _ (by omega)).trans eb14
      have eu15 : u.2 15 = b.2 15 := eu2 _ (by omega)
      have eu16 : u.2 16 = b.2 16 := eu2 _ (by omega)
      have hTb : gTb u (u.1 k2 1) := by
        intro j j0 j1
        rw [eu1, etk2] at j1
        rw [eu1, et3, eu15, eu16, etk2]
        have hsj := hSplit j j0 j1
        have hsb := hSb j j0 j1
        have hrb := hrow1.1 j j0 j1
        refine ⟨by omega, hsj.2.congr (fun q q0 q1 => ?_)⟩
        have := (hSplit q (by omega) q1).1
        omega
      refine bk_X0_find_80 hX hE u hgu k1 k2 k _ i p2 p3 ⟨rng_of (by omega) (by omega), fun h => by rw [eu1, etk2] at h; omega, fun _ => ⟨by omega, by unfold gMs; rw [eu1, et3]; exact ⟨m0, m1, m2, m3, m4⟩, by omega, by omega, by rw [eu1, etk2]; omega, hTb, fun v w hw => ?_⟩⟩
      obtain ⟨⟨hmn, rfl⟩, -⟩ := hw
      rw [eu1, et3, etk2, eu15] at hmn
      have hcell := gcell (M := s.1 3) (rd := s.2 (k2 + 10)) (pt := s.2 (k1 + 10)) (bt := s.2 (k1 + 20)) (S := a.2 14) (B' := t.2 (200 + (k + 1))) (w := b.2 15) (k := k) hSa (fun j j0 j1 => (hSplit j j0 j1).1) rfl hi0 (by omega) hmn
      rw [eu14]
      have hwb : 0 ≤ v - a.2 14 i ∧ v - a.2 14 i ≤ 1000000000 := by
        obtain ⟨⟨j, j1, j2, j3⟩, hle⟩ := hcell
        have hc := gCst_bd (M := s.1 3) (rd := s.2 (k2 + 10)) (pt := s.2 (k1 + 10)) (bt := s.2 (k1 + 20)) (k := k) (i := i) (t := j) m0 m1 m2 m3 (by omega) hpk.2
        have hB := hrow1.1 (i + j) (by omega) (by omega)
        have hl := hle (s.1 k2 1 - i) (by omega) (by omega)
        dsimp only at j3 hl
        have hc2 := gCst_bd (M := s.1 3) (rd := s.2 (k2 + 10)) (pt := s.2 (k1 + 10)) (bt := s.2 (k1 + 20)) (k := k) (i := i) (t := s.1 k2 1 - i) m0 m1 m2 m3 (by omega) hpk.2
        rw [show i + (s.1 k2 1 - i) = s.1 k2 1 by omega] at hl
        have := hrow1.2
        omega
      refine ⟨by omega, rng_of (by omega) (by omega), next2 _ ⟨by omega, gRg_A hgu (rng_of (by omega) (by omega)), eu1, fun q hq => ?_, fun j j0 j1 => ?_⟩⟩
      · rw [← eu2 q hq]; funext x; exact gpA_nk hq
      · by_cases e : j = i
        · subst e; rw [gpA_eq]; exact hcell
        · rw [gpA_ni e]; exact hcells j j0 (by omega)
    · intro u ⟨hi0, hgu, eu1, eu2, hcells⟩
      refine bk_X0_find_80 hX hE u hgu k1 k2 k _ _ p2 p3 ⟨rng_of (by omega) (by omega), fun _ => ?_, fun h => by rw [eu1, etk2] at h; omega⟩
      have euB : ∀ q : Int, 0 ≤ q → q ≠ k → u.2 (200 + q) = t.2 (200 + q) := fun q q0 q1 => (eu2 _ (by omega)).trans (ebB q q0)
      refine next u ⟨by omega, hgu, fun q j hq => by rw [eu1]; exact e1 q j hq, by rw [eu1]; exact e4, fun q q1 q2 => ?_, ?_, fun q i q0 q1 i0 i1 => ?_, fun q q0 q1 => ?_⟩
      · rw [eu2 q (by omega), hob.2 q (by omega) (by omega), hoa.2 q (by omega)]
        exact e2 q q1 q2
      · rw [euB _ (by omega) (by omega)]; exact hr1
      · by_cases e : q = k
        · subst e
          rw [euB _ (by omega) (by omega)]
          exact hcells i i0 (by omega)
        · rw [euB _ (by omega) (by omega), euB _ (by omega) e]
          exact hr2 q i (by omega) q1 i0 i1
      · by_cases e : q = k
        · subst e
          have hbd : ∀ i : Int, 0 ≤ i → i ≤ s.1 k2 1 → (0 ≤ u.2 (200 + q) i ∧ u.2 (200 + q) i ≤ 1000000000) := by
            intro i i0 i1
            obtain ⟨⟨j, j1, j2, j3⟩, hle⟩ := hcells i i0 (by omega)
            have hc := gCst_bd (M := s.1 3) (rd := s.2 (k2 + 10)) (pt := s.2 (k1 + 10)) (bt := s.2 (k1 + 20)) (k := q) (i := i) (t := j) m0 m1 m2 m3 (by omega) hpk.2
            have hB := hrow1.1 (i + j) (by omega) (by omega)
            have hl := hle (s.1 k2 1 - i) (by omega) (by omega)
            dsimp only at j3 hl
            have hc2 := gCst_bd (M := s.1 3) (rd := s.2 (k2 + 10)) (pt := s.2 (k1 + 10)) (bt := s.2 (k1 + 20)) (k := q) (i := i) (t := s.1 k2 1 - i) m0 m1 m2 m3 (by omega) hpk.2
            rw [show i + (s.1 k2 1 - i) = s.1 k2 1 by omega] at hl
            have := hrow1.2
            omega
          refine ⟨hbd, ?_⟩
          obtain ⟨-, hle⟩ := hcells (s.1 k2 1) (by omega) (by omega)
          have hl := hle 0 (by omega) (by omega)
          dsimp only at hl
          have h0 : gCst (s.1 3) (s.2 (k2 + 10)) (s.2 (k1 + 10)) (s.2 (k1 + 20)) q (s.1 k2 1) 0 ≤ 74000 := by
            have := gsc_0 (b := s.2 (k1 + 20) q) m0 m2 m3 hpk.2
            unfold gCst
            rw [gsum_0]
            omega
          rw [Int.add_zero] at hl
          have := hrow1.2
          omega
        · rw [euB _ (by omega) e]
          exact hr3 q (by omega) q1
  · intro t ⟨hkn, hg, e1, e4, e2, hr1, hr2, hr3⟩
    have et3 : t.1 3 = s.1 3 := by funext j; exact e1 3 j (by omega)
    have etk2 : t.1 k2 1 = s.1 k2 1 := e1 k2 1 (by omega)
    have etk1 : t.1 k1 2 = s.1 k1 2 := e1 k1 2 (by omega)
    have etr : t.2 (k2 + 10) = s.2 (k2 + 10) := e2 _ (by omega) (by omega)
    have etp : t.2 (k1 + 10) = s.2 (k1 + 10) := e2 _ (by omega) (by omega)
    have etb : t.2 (k1 + 20) = s.2 (k1 + 20) := e2 _ (by omega) (by omega)
    -- the state with the cost
    obtain ⟨c, hc⟩ : ∃ c : gS, c = gpI t 4 5 (t.2 (200 + 0) 0) := ⟨_, rfl⟩
    have ec1 : ∀ (q : Int) (j : Nat), ¬ (q = 4 ∧ j = 5) → c.1 q j = t.1 q j := fun q j hq => by rw [hc]; exact if_neg hq
    have ec2 : c.2 = t.2 := by rw [hc]; rfl
    have ec45 : c.1 4 5 = t.2 200 0 := by rw [hc]; exact gpI_eq
    have ec3 : c.1 3 = s.1 3 := by funext j; rw [ec1 3 j (by omega)]; rw [et3]
    have eck1 : c.1 k1 2 = s.1 k1 2 := (ec1 k1 2 (by omega)).trans etk1
    have eck2 : c.1 k2 1 = s.1 k2 1 := (ec1 k2 1 (by omega)).trans etk2
    have hDP : gDP (s.1 3) (s.2 (k2 + 10)) (s.2 (k1 + 10)) (s.2 (k1 + 20)) (s.1 k1 2) (s.1 k2 1) (fun k i => t.2 (200 + k) i) := ⟨hr1, fun k i k0 k1' i0 i1 => hr2 k i (by omega) k1' i0 i1⟩
    refine bk_X0_find_24 hX hE t hg k1 k2 (-1) p2 p3 ⟨rng_of (by omega) (by omega), fun _ => ?_, fun h => by omega⟩
    rw [← hc]
    refine ⟨by unfold gMs; rw [ec3]; exact ⟨m0, m1, m2, m3, m4⟩, p2, p3, by unfold gPc; rw [eck1, ec2, etp, etb]; exact p4, by unfold gRd; rw [eck2, ec2, etr]; exact p5, by rw [ec1 4 4 (by omega), e4, eck1], fun k k0 k1' => ?_, ?_, fun d hd => ?_⟩
    · rw [eck1] at k1'
      unfold gBr
      rw [eck2, ec2]
      exact (hr3 (k + 1) (by omega) (by omega)).1
    · unfold gDPs
      rw [ec3, ec2, etr, etp, etb, eck1, eck2]
      exact hDP
    obtain ⟨⟨hod, pos, htk, hfst⟩, hgd⟩ := hd
    unfold gTks at htk
    rw [ec3, ec2, etr, etp, etb, eck1, eck2] at htk
    rw [eck1] at hfst
    have ed1 : d.1 = c.1 := hod.1
    have edr : d.2 (k2 + 10) = s.2 (k2 + 10) := (hod.2 _ (by omega) (by omega)).trans (by rw [ec2]; exact etr)
    have edp : d.2 (k1 + 10) = s.2 (k1 + 10) := (hod.2 _ (by omega) (by omega)).trans (by rw [ec2]; exact etp)
    have edb : d.2 (k1 + 20) = s.2 (k1 + 20) := (hod.2 _ (by omega) (by omega)).trans (by rw [ec2]; exact etb)
    have hpos : ∀ k : Int, 0 ≤ k → k ≤ s.1 k1 2 → 0 ≤ pos k ∧ pos k ≤ s.1 k2 1 := by
      have key : ∀ m : Nat, (m : Int) ≤ s.1 k1 2 → 0 ≤ pos (m : Int) ∧ pos (m : Int) ≤ s.1 k2 1 := by
        intro m
        induction m with
        | zero =>
          intro _
          have h0 : pos ((0 : Nat) : Int) = 0 := htk.1
          rw [h0]; omega
        | succ m ih =>
          intro hm
          have h1 := ih (by omega)
          obtain ⟨h2, h3, -⟩ := htk.2 (m : Int) (by omega) (by omega)
          have e : ((m + 1 : Nat) : Int) = (m : Int) + 1 := by omega
          rw [e, h3]; omega
      intro k k0 k1'
      have := key k.toNat (by omega)
      rw [show ((k.toNat : Nat) : Int) = k by omega] at this
      exact this
    refine ⟨by unfold gPc; rw [ed1, eck1, edp, edb]; exact p4, by unfold gRd; rw [ed1, eck2, edr]; exact p5, by rw [ed1, ec1 4 4 (by omega), e4, eck1], by rw [ed1, ec3]; exact m4, fun k k0 k1' => ?_, fun e he => ?_⟩
    · rw [ed1, eck1] at k1'
      have htkk := htk.2 k k0 k1'
      have hpk := hpos k k0 (by omega)
      unfold gSp
      rw [ed1, eck2, hfst k k0 k1']
      refine ⟨by omega, ?_⟩
      by_cases q : d.2 10 k = 0
      · exact Or.inl q
      · right; rw [if_neg q]; omega
    obtain ⟨⟨h1, h2, h3, h4, h5⟩, -⟩ := he
    rw [ed1, eck1, edr, edp, ec3] at h3
    rw [ed1, eck1, edr, edp] at h4
    rw [ed1, eck1, edr, edp, ec3] at h5
    have ee1 : ∀ (q : Int) (j : Nat), q ≠ 4 → e.1 q j = s.1 q j := fun q j hq => by rw [h1 q j (fun z => hq z.1), ed1, ec1 q j (fun z => hq z.1), e1 q j (fun z => hq z.1)]
    have ee3 : e.1 3 = s.1 3 := by funext j; exact ee1 3 j (by decide)
    have eek1 : e.1 k1 2 = s.1 k1 2 := ee1 k1 2 (by omega)
    have eek2 : e.1 k2 1 = s.1 k2 1 := ee1 k2 1 (by omega)
    have eer : e.2 (k2 + 10) = s.2 (k2 + 10) := (h2 _ (by omega) (by omega)).trans edr
    have eep : e.2 (k1 + 10) = s.2 (k1 + 10) := (h2 _ (by omega) (by omega)).trans edp
    have eeb : e.2 (k1 + 20) = s.2 (k1 + 20) := (h2 _ (by omega) (by omega)).trans edb
    have ee9 : e.2 9 = d.2 9 := h2 _ (by decide) (by decide)
    have ee10 : e.2 10 = d.2 10 := h2 _ (by decide) (by decide)
    have hoffc : ∀ k : Int, 0 ≤ k → k < s.1 k1 2 → gof (fun q => s.2 (k2 + 10) (d.2 9 k + q)) (s.2 (k1 + 10) k) (d.2 10 k) = gof (fun q => s.2 (k2 + 10) (pos k + q)) (s.2 (k1 + 10) k) (d.2 10 k) := by
      intro k k0 k1'
      rw [hfst k k0 k1']
      by_cases q : d.2 10 k = 0
      · rw [q]; rfl
      · rw [if_neg q]
    refine ⟨ee1, ?_, fun q q1 q2 q3 => ?_, ?_, (fun k i => t.2 (200 + k) i), pos, ?_, ?_, ?_, fun k k0 k1' => ?_, ?_, ?_⟩
    · rw [h1 4 8 (by omega), ed1, ec1 4 8 (by omega), e1 4 8 (by omega)]
    · rw [h2 q (by omega) (by omega), hod.2 q (by omega) (by omega), ec2]
      exact e2 q q2 q3
    · rw [h1 4 4 (by omega), ed1, ec1 4 4 (by omega), e4, eek1]
    · rw [ee3, eer, eep, eeb, eek1, eek2]; exact hDP
    · rw [ee3, eer, eep, eeb, eek1, eek2, ee10]; exact htk
    · rw [h1 4 5 (by omega), ed1, ec45]; rfl
    · rw [eek1] at k1'
      rw [ee9, ee10, eer, eep, ee3]
      refine ⟨hfst k k0 k1', ?_, ?_⟩
      · rw [(h3 k k0 k1').1]; exact hoffc k k0 k1'
      · rw [(h3 k k0 k1').2]
        exact gflt_congr (n := s.1 k1 2) hoffc (fun _ _ _ => rfl) k0 k1'
    · rw [h4, ee10, eer, eep, eek1]
      exact gsunk_congr hoffc hps.1
    · rw [h5, ee10, eer, eep, eek1, ee3]
      exact gsum_congr hps.1 (fun k k0 k1' => gflt_congr (n := s.1 k1 2) hoffc (fun _ _ _ => rfl) k0 k1')
  · have hq : q = s.1 k1 2 := by omega
    subst hq
    refine ⟨fun i i0 i1 => ?_, ?_⟩
    · rw [hrow3 i i0 i1]; split <;> omega
    · rw [hrow3 _ hrd.1 (Int.le_refl _), if_pos rfl]; omega

