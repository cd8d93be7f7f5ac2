theorem fl_X0_9 : gFL RX0 9 0 0 := ⟨RX0, TX0, 13, tyX0, rfl, by decide, inG_X0, (gm_1 97 rfl rfl), tyX0_ok, nmX0, fun h => absurd h (by decide)⟩
theorem fl_X0_15 : gFL RX0 15 0 1 := ⟨RX0, TX0, 13, tyX0, rfl, by decide, inG_X0, (gm_1 99 rfl rfl), tyX0_ok, nmX0, fun h => absurd h (by decide)⟩
theorem fl_X0_64 : gFL RX0 64 3 0 := ⟨RX3, TX3, 3, tyX3, rfl, by decide, inG_X3, (gm_1 28 rfl rfl), tyX3_ok, nmX3, fun h => absurd h (by decide)⟩
theorem fl_X0_80 : gFL RX0 80 3 1 := ⟨RX3, TX3, 3, tyX3, rfl, by decide, inG_X3, (gm_1 30 rfl rfl), tyX3_ok, nmX3, fun h => absurd h (by decide)⟩
theorem cv_X0_118 : gCV RX0 118 yX0_findTaken cX0_findTaken 10 (some .int) 5 0 := ⟨TX0, 13, rfl, (gm_2 91 rfl rfl), (gm_2 93 rfl rfl), (gm_s 6 rfl rfl), (gm_1 5 rfl rfl), (gm_2 94 rfl rfl), ⟨by decide, by decide, by decide +kernel⟩, by decide⟩
theorem cv_X0_122 : gCV RX0 122 yX1_costOfLength cX1_costOfLength 4 (some .int) 2 1 := ⟨TX1, 5, rfl, (gm_2 95 rfl rfl), (gm_2 96 rfl rfl), (gm_2 97 rfl rfl), (gm_1 4 rfl rfl), (gm_2 98 rfl rfl), ⟨by decide, by decide, by decide +kernel⟩, by decide⟩
theorem cv_X0_134 : gCS RX0 134 yJ9_floorDiv_7cf53 cJ9_floorDiv_7cf53 3 (some .int) 2 := ⟨(gm_2 108 rfl rfl), (gm_2 109 rfl rfl), (gm_1 10 rfl rfl), (gm_2 110 rfl rfl), ⟨by decide, by decide, by decide +kernel⟩, by decide⟩
theorem ldc_X0_125 : Cond.constant RX0 125 (-100000) ∈ gAll := (gm_2 103 rfl rfl)
/-! ===== the laying forward ===== -/
def gPc (s : gS) (k : Int) : Prop := (0 ≤ s.1 k 2 ∧ s.1 k 2 ≤ 24) ∧ ∀ i : Int, 0 ≤ i → i < s.1 k 2 → (0 ≤ s.2 (k + 10) i ∧ s.2 (k + 10) i ≤ 4800) ∧ (1 ≤ s.2 (k + 20) i ∧ s.2 (k + 20) i ≤ 8)
def gBr (s : gS) (k e : Int) : Prop := ∀ i : Int, 0 ≤ i → i ≤ e → 0 ≤ s.2 k i ∧ s.2 k i ≤ 1000000000
def gCst (M : Nat → Int) (rd pt bt : Int → Int) (k i t : Int) : Int := gsum (fun q => grc (M 1) (rd (i + q)) (pt k)) t + gsc (M 0) (M 2) (M 3) t (bt k)
def gDP (M : Nat → Int) (rd pt bt : Int → Int) (n all : Int) (B : Int → Int → Int) : Prop :=
  (∀ i : Int, 0 ≤ i → i ≤ all → B n i = if i = all then 0 else 1000000000) ∧ ∀ k i : Int, 0 ≤ k → k < n → 0 ≤ i → i ≤ all → gMn (fun t => gCst M rd pt bt k i t + B (k + 1) (i + t)) 0 (all - i) (B k i)
def gTk (M : Nat → Int) (rd pt bt : Int → Int) (n all : Int) (B : Int → Int → Int) (pos take : Int → Int) : Prop :=
  pos 0 = 0 ∧ ∀ k : Int, 0 ≤ k → k < n → (0 ≤ take k ∧ take k ≤ all - pos k) ∧ pos (k + 1) = pos k + take k ∧ gCst M rd pt bt k (pos k) (take k) + B (k + 1) (pos k + take k) = B k (pos k) ∧ ∀ t : Int, 0 ≤ t → t < take k → gCst M rd pt bt k (pos k) t + B (k + 1) (pos k + t) ≠ B k (pos k)
def gDPs (s : gS) (k1 k2 : Int) : Prop := gDP (s.1 3) (s.2 (k2 + 10)) (s.2 (k1 + 10)) (s.2 (k1 + 20)) (s.1 k1 2) (s.1 k2 1) (fun k i => s.2 (200 + k) i)
def gTks (s : gS) (k1 k2 : Int) (pos take : Int → Int) : Prop := gTk (s.1 3) (s.2 (k2 + 10)) (s.2 (k1 + 10)) (s.2 (k1 + 20)) (s.1 k1 2) (s.1 k2 1) (fun k i => s.2 (200 + k) i) pos take
def gTaken (s : gS) (k1 k2 k i v : Int) : Prop := (0 ≤ v ∧ v ≤ s.1 k2 1 - i) ∧ (∀ t : Int, 0 ≤ t → t < v → gCst (s.1 3) (s.2 (k2 + 10)) (s.2 (k1 + 10)) (s.2 (k1 + 20)) k i t + s.2 (200 + (k + 1)) (i + t) ≠ s.2 (200 + k) i) ∧ (v < s.1 k2 1 - i → gCst (s.1 3) (s.2 (k2 + 10)) (s.2 (k1 + 10)) (s.2 (k1 + 20)) k i v + s.2 (200 + (k + 1)) (i + v) = s.2 (200 + k) i)
def gof (rd : Int → Int) (p t : Int) : Int := if gsum (fun q => if rd q = -1 then 0 else 1) t = 0 then -100000 else gsum (fun q => if rd q = -1 then 0 else rd q - p) t / gsum (fun q => if rd q = -1 then 0 else 1) t
def gSp (s : gS) (k2 k : Int) : Prop := (0 ≤ s.2 10 k ∧ s.2 10 k ≤ 120) ∧ (s.2 10 k = 0 ∨ (0 ≤ s.2 9 k ∧ s.2 9 k + s.2 10 k ≤ s.1 k2 1))
def glst (off : Int → Int) (k : Int) : Int := giter (fun i a => if off i = -100000 then a else off i) 0 k
def gfrs (off : Int → Int) (k : Int) : Int := giter (fun i a => if off i = -100000 then a else if a = -100000 then off i else a) (-100000) k
def gflt (off take : Int → Int) (ear k : Int) : Int := if off k = -100000 then (if take k = 0 then 1 else 0) else gb (ear < gabs (off k - glst off k))
def gsunk (off : Int → Int) (n : Int) : Int := if gfrs off n = -100000 then 0 else gfrs off n - glst off n
def gheard (s t : gS) (k1 k2 ear : Int) : Prop := (∀ (k : Int) (j : Nat), ¬ (k = 4 ∧ (j = 6 ∨ j = 7)) → t.1 k j = s.1 k j) ∧ (∀ k : Int, k ≠ 11 → k ≠ 12 → t.2 k = s.2 k) ∧ (∀ k : Int, 0 ≤ k → k < s.1 k1 2 → t.2 11 k = gof (fun q => s.2 (k2 + 10) (s.2 9 k + q)) (s.2 (k1 + 10) k) (s.2 10 k) ∧ t.2 12 k = gflt (fun k => gof (fun q => s.2 (k2 + 10) (s.2 9 k + q)) (s.2 (k1 + 10) k) (s.2 10 k)) (s.2 10) ear k) ∧ t.1 4 6 = gsunk (fun k => gof (fun q => s.2 (k2 + 10) (s.2 9 k + q)) (s.2 (k1 + 10) k) (s.2 10 k)) (s.1 k1 2) ∧ t.1 4 7 = gsum (fun k => gflt (fun k => gof (fun q => s.2 (k2 + 10) (s.2 9 k + q)) (s.2 (k1 + 10) k) (s.2 10 k)) (s.2 10) ear k) (s.1 k1 2)
theorem gof_bd {rd : Int → Int} {p t : Int} (h0 : 0 ≤ t) (hp : 0 ≤ p ∧ p ≤ 4800) (h : ∀ q : Int, 0 ≤ q → q < t → -1 ≤ rd q ∧ rd q ≤ 4800) : gof rd p t = -100000 ∨ (-4800 ≤ gof rd p t ∧ gof rd p t ≤ 4800) := by
  have hc := gsum_bd (f := fun q => if rd q = -1 then 0 else 1) (n := t) (lo := 0) (hi := 1) h0 (fun q _ _ => by split <;> omega)
  have key := giter_ind (f := fun i a => a + (if rd i = -1 then 0 else rd i - p)) (a := (0 : Int)) (N := t) (fun i a => -4800 * gsum (fun q => if rd q = -1 then 0 else 1) i ≤ a ∧ a ≤ 4800 * gsum (fun q => if rd q = -1 then 0 else 1) i) ⟨by rw [gsum_0]; omega, by rw [gsum_0]; omega⟩ (fun i a i0 i1 ha => by
    have := h i i0 i1
    rw [gsum_s _ i0]
    by_cases e : rd i = -1
    · rw [if_pos e, if_pos e]; omega
    · rw [if_neg e, if_neg e]; omega) t h0 (Int.le_refl t)
  have key' : -4800 * gsum (fun q => if rd q = -1 then 0 else 1) t ≤ gsum (fun q => if rd q = -1 then 0 else rd q - p) t ∧ gsum (fun q => if rd q = -1 then 0 else rd q - p) t ≤ 4800 * gsum (fun q => if rd q = -1 then 0 else 1) t := key
  unfold gof
  generalize gsum (fun q => if rd q = -1 then 0 else 1) t = c at hc key' ⊢
  generalize gsum (fun q => if rd q = -1 then 0 else rd q - p) t = o at key' ⊢
  split
  · exact Or.inl rfl
  · right
    have hc0 : 0 < c := by omega
    exact ⟨Int.le_ediv_of_mul_le hc0 key'.1, Int.ediv_le_of_le_mul hc0 key'.2⟩
theorem gCst_s (M : Nat → Int) (rd pt bt : Int → Int) (k i : Int) : True := trivial
theorem gCst_bd {M : Nat → Int} {rd pt bt : Int → Int} {k i t : Int} (h1 : 1 ≤ M 0 ∧ M 0 ≤ 8) (hh : 0 ≤ M 1 ∧ M 1 ≤ 1000) (h2 : 0 ≤ M 2 ∧ M 2 ≤ 1000) (h3 : 0 ≤ M 3 ∧ M 3 ≤ 10000) (ht : 0 ≤ t ∧ t ≤ 120) (hb : 1 ≤ bt k ∧ bt k ≤ 8) : 0 ≤ gCst M rd pt bt k i t ∧ gCst M rd pt bt k i t ≤ 250000 := by
  have ha := gsum_bd (f := fun q => grc (M 1) (rd (i + q)) (pt k)) (n := t) (lo := 0) (hi := 1000) ht.1 (fun q _ _ => grc_bd hh)
  have hc := gsc_bd (b := bt k) h1 h2 h3 ht hb
  unfold gCst
  omega
set_option maxRecDepth 100000 in
set_option maxHeartbeats 4000000 in
theorem bk_X0_findTaken_0 {X : gX} {G : gG} (hX : gOk X G cX0_findTaken 10 RX0 (some .int) 3) {Q : Int → gS → Prop} (hE : gEnd X G (gPi (fun v s' => Q v s' ∧ gRg s'))) (s : gS) (hs : gRg s) (k1 : Int) (k2 : Int) (x4 : Int) (x5 : Int) (hk1 : 100 ≤ k1 ∧ k1 < 106) (hk2 : 130 ≤ k2 ∧ k2 < 140) (h : gWL X G s 15 [(0, gR G 4), (1, gR G k1), (2, gR G k2), (3, gR G 3), (4, vi x4), (5, vi x5), (6, vi ((s.1 k2 1) - x5)), (7, vi 0), (8, vi 0)] []) : gWL X G s 0 [(0, gR G 4), (1, gR G k1), (2, gR G k2), (3, gR G 3), (4, vi x4), (5, vi x5)] [] := by
  refine g_aload_n hX dX0_findTaken_0 2 rfl ?_
  refine g_getI hX (sh_recording (by omega) (by omega)) 1 rfl fl_X0_57 dX0_findTaken_1 ?_
  refine g_iload hX dX0_findTaken_4 5 rfl ?_
  refine g_isub hX dX0_findTaken_6 ?_
  refine g_istore (loc' := [(6, vi ((s.1 k2 1) - x5)), (0, gR G 4), (1, gR G k1), (2, gR G k2), (3, gR G 3), (4, vi x4), (5, vi x5)]) hX dX0_findTaken_7 (by decide) rfl ?_
  refine g_iconst hX dX0_findTaken_9 ?_
  refine g_istore (loc' := [(7, vi 0), (6, vi ((s.1 k2 1) - x5)), (0, gR G 4), (1, gR G k1), (2, gR G k2), (3, gR G 3), (4, vi x4), (5, vi x5)]) hX dX0_findTaken_10 (by decide) rfl ?_
  refine g_iconst hX dX0_findTaken_12 ?_
  refine g_istore (loc' := [(8, vi 0), (7, vi 0), (6, vi ((s.1 k2 1) - x5)), (0, gR G 4), (1, gR G k1), (2, gR G k2), (3, gR G 3), (4, vi x4), (5, vi x5)]) hX dX0_findTaken_13 (by decide) rfl ?_
  exact g_sub [3, 4, 5, 6, 7, 8, 2, 1, 0] rfl h
set_option maxRecDepth 100000 in
set_option maxHeartbeats 4000000 in
theorem bk_X0_findTaken_15 {X : gX} {G : gG} (hX : gOk X G cX0_findTaken 10 RX0 (some .int) 3) {Q : Int → gS → Prop} (hE : gEnd X G (gPi (fun v s' => Q v s' ∧ gRg s'))) (s : gS) (hs : gRg s) (k1 : Int) (k2 : Int) (x4 : Int) (x5 : Int) (x6 : Int) (x7 : Int) (x8 : Int) (hk1 : 100 ≤ k1 ∧ k1 < 106) (hk2 : 130 ≤ k2 ∧ k2 < 140) (h : (rng x8) ∧ (rng x6) ∧ ((x6 ≤ x8 → Q x6 s) ∧ (x8 < x6 → (0 ≤ x4 ∧ x4 < 24) ∧ (gMs s) ∧ (0 ≤ x8 ∧ x8 ≤ 120) ∧ (1 ≤ (s.2 (k1 + 20) x4) ∧ (s.2 (k1 + 20) x4) ≤ 8) ∧ (0 ≤ (x4 + 1) ∧ (x4 + 1) < 25) ∧ (0 ≤ (x5 + x8) ∧ (x5 + x8) < 121) ∧ (0 ≤ x4 ∧ x4 < 25) ∧ (0 ≤ x5 ∧ x5 < 121) ∧ (rng ((x7 + (gsc (s.1 3 0) (s.1 3 2) (s.1 3 3) x8 (s.2 (k1 + 20) x4))) + (s.2 (200 + (x4 + 1)) (x5 + x8)))) ∧ ((¬ ((x7 + (gsc (s.1 3 0) (s.1 3 2) (s.1 3 3) x8 (s.2 (k1 + 20) x4))) + (s.2 (200 + (x4 + 1)) (x5 + x8))) = (s.2 (200 + x4) x5) → (0 ≤ (x5 + x8) ∧ (x5 + x8) < 120) ∧ (-1 ≤ (s.2 (k2 + 10) (x5 + x8)) ∧ (s.2 (k2 + 10) (x5 + x8)) ≤ 4800) ∧ (0 ≤ (s.2 (k1 + 10) x4) ∧ (s.2 (k1 + 10) x4) ≤ 4800) ∧ gWL X G s 15 [(0, gR G 4), (1, gR G k1), (2, gR G k2), (3, gR G 3), (4, vi x4), (5, vi x5), (6, vi x6), (7, vi (x7 + (grc (s.1 3 1) (s.2 (k2 + 10) (x5 + x8)) (s.2 (k1 + 10) x4)))), (8, vi (x8 + 1))] []) ∧ (((x7 + (gsc (s.1 3 0) (s.1 3 2) (s.1 3 3) x8 (s.2 (k1 + 20) x4))) + (s.2 (200 + (x4 + 1)) (x5 + x8))) = (s.2 (200 + x4) x5) → Q x8 s))))) : gWL X G s 15 [(0, gR G 4), (1, gR G k1), (2, gR G k2), (3, gR G 3), (4, vi x4), (5, vi x5), (6, vi x6), (7, vi x7), (8, vi x8)] [] := by
  refine g_iload hX dX0_findTaken_15 8 rfl ?_
  refine g_iload hX dX0_findTaken_17 6 rfl ?_
  obtain ⟨h1, h⟩ := h
  obtain ⟨h2, h⟩ := h
  refine g_icge (tgt := 106) hX h1 h2 dX0_findTaken_19 (by decide) (fun c3 => ?_) (fun c3 => ?_)
  · replace h := h.1 c3
    refine g_iload hX dX0_findTaken_106 6 rfl ?_
    exact g_iret hX hE dX0_findTaken_108 ⟨h, hs⟩
  · replace h := h.2 (Int.not_le.mp c3)
    refine g_iload hX dX0_findTaken_22 7 rfl ?_
    refine g_aload_n hX dX0_findTaken_24 3 rfl ?_
    refine g_iload hX dX0_findTaken_25 8 rfl ?_
    refine g_aload_n hX dX0_findTaken_27 1 rfl ?_
    refine g_getR hX (sh_piece (by omega) (by omega)) 1 rfl fl_X0_80 dX0_findTaken_28 ?_
    refine g_iload hX dX0_findTaken_31 4 rfl ?_
    obtain ⟨h4, h⟩ := h
    refine g_iald hX (sh_beats (by omega) (by omega)) h4 (by decide) dX0_findTaken_33 ?_
    obtain ⟨h5, h⟩ := h
    obtain ⟨h6, h⟩ := h
    obtain ⟨h7, h⟩ := h
    refine g_cVf (As := [vi x8, vi (s.2 (k1 + 20) x4)]) hX (fun l => c_X1_costOfLength l hX.inj s x8 (s.2 (k1 + 20) x4) hs h5 h6 h7) sh_3 cv_X0_122 (by decide) rfl (Nat.le_of_ble_eq_true rfl) dX0_findTaken_34 rfl (fun g8 => ?_)
    refine g_iadd hX dX0_findTaken_37 ?_
    refine g_aload_n hX dX0_findTaken_38 0 rfl ?_
    refine g_getR hX sh_4 9 rfl fl_X0_42 dX0_findTaken_39 ?_
    refine g_iload hX dX0_findTaken_42 4 rfl ?_
    refine g_iconst hX dX0_findTaken_44 ?_
    refine g_iadd hX dX0_findTaken_45 ?_
    obtain ⟨h9, h⟩ := h
    have k10 := h9
    refine g_aald (kd := 4) (q := (200 + (x4 + 1))) hX sh_13 rfl rfl h9 (by decide) (by show 200 + (((x4 + 1) : Int).toNat : Int) = _; omega) dX0_findTaken_46 ?_
    refine g_iload hX dX0_findTaken_47 5 rfl ?_
    refine g_iload hX dX0_findTaken_49 8 rfl ?_
    refine g_iadd hX dX0_findTaken_51 ?_
    obtain ⟨h11, h⟩ := h
    refine g_iald hX (sh_bestrow (by omega) (by omega)) h11 (by decide) dX0_findTaken_52 ?_
    refine g_iadd hX dX0_findTaken_53 ?_
    refine g_istore (loc' := [(9, vi ((x7 + (gsc (s.1 3 0) (s.1 3 2) (s.1 3 3) x8 (s.2 (k1 + 20) x4))) + (s.2 (200 + (x4 + 1)) (x5 + x8)))), (0, gR G 4), (1, gR G k1), (2, gR G k2), (3, gR G 3), (4, vi x4), (5, vi x5), (6, vi x6), (7, vi x7), (8, vi x8)]) hX dX0_findTaken_54 (by decide) rfl ?_
    refine g_iload hX dX0_findTaken_56 0 rfl ?_
    refine g_aload_n hX dX0_findTaken_58 1 rfl ?_
    refine g_getR hX sh_4 9 rfl fl_X0_42 dX0_findTaken_59 ?_
    refine g_iload hX dX0_findTaken_62 5 rfl ?_
    obtain ⟨h12, h⟩ := h
    have k13 := h12
    refine g_aald (kd := 4) (q := (200 + x4)) hX sh_13 rfl rfl h12 (by decide) (by show 200 + ((x4 : Int).toNat : Int) = _; omega) dX0_findTaken_64 ?_
    refine g_iload hX dX0_findTaken_65 6 rfl ?_
    obtain ⟨h14, h⟩ := h
    refine g_iald hX (sh_bestrow (by omega) (by omega)) h14 (by decide) dX0_findTaken_67 ?_
    obtain ⟨h15, h⟩ := h
    refine g_icne (tgt := 74) hX h15 (hs.2 _ _) dX0_findTaken_68 (by decide) (fun c16 => ?_) (fun c16 => ?_)
    · replace h := h.1 c16
      refine g_iload hX dX0_findTaken_74 8 rfl ?_
      refine g_aload_n hX dX0_findTaken_76 4 rfl ?_
      refine g_aload_n hX dX0_findTaken_77 3 rfl ?_
      refine g_getR hX (sh_recording (by omega) (by omega)) 0 rfl fl_X0_102 dX0_findTaken_78 ?_
      refine g_iload hX dX0_findTaken_81 6 rfl ?_
      refine g_iload hX dX0_findTaken_83 9 rfl ?_
      refine g_iadd hX dX0_findTaken_85 ?_
      obtain ⟨h17, h⟩ := h
      refine g_iald hX (sh_readings (by omega) (by omega)) h17 (by decide) dX0_findTaken_86 ?_
      refine g_aload_n hX dX0_findTaken_87 2 rfl ?_
      refine g_getR hX (sh_piece (by omega) (by omega)) 0 rfl fl_X0_64 dX0_findTaken_88 ?_
      refine g_iload hX dX0_findTaken_91 5 rfl ?_
      refine g_iald hX (sh_pitches (by omega) (by omega)) h4 (by decide) dX0_findTaken_93 ?_
      obtain ⟨h18, h⟩ := h
      obtain ⟨h19, h⟩ := h
      refine g_cVf (As := [vi (s.2 (k2 + 10) (x5 + x8)), vi (s.2 (k1 + 10) x4)]) hX (fun l => c_X1_costOfReading l hX.inj s (s.2 (k2 + 10) (x5 + x8)) (s.2 (k1 + 10) x4) hs h18 h19) sh_3 cv_X0_105 (by decide) rfl (Nat.le_of_ble_eq_true rfl) dX0_findTaken_94 rfl (fun g20 => ?_)
      refine g_iadd hX dX0_findTaken_97 ?_
      refine g_istore (loc' := [(7, vi (x7 + (grc (s.1 3 1) (s.2 (k2 + 10) (x5 + x8)) (s.2 (k1 + 10) x4)))), (9, vi ((x7 + (gsc (s.1 3 0) (s.1 3 2) (s.1 3 3) x8 (s.2 (k1 + 20) x4))) + (s.2 (200 + (x4 + 1)) (x5 + x8)))), (0, gR G 4), (1, gR G k1), (2, gR G k2), (3, gR G 3), (4, vi x4), (5, vi x5), (6, vi x6), (8, vi x8)]) hX dX0_findTaken_98 (by decide) rfl ?_
      refine g_iinc (loc' := [(8, vi (x8 + 1)), (7, vi (x7 + (grc (s.1 3 1) (s.2 (k2 + 10) (x5 + x8)) (s.2 (k1 + 10) x4)))), (9, vi ((x7 + (gsc (s.1 3 0) (s.1 3 2) (s.1 3 3) x8 (s.2 (k1 + 20) x4))) + (s.2 (200 + (x4 + 1)) (x5 + x8)))), (0, gR G 4), (1, gR G k1), (2, gR G k2), (3, gR G 3), (4, vi x4), (5, vi x5), (6, vi x6)]) hX dX0_findTaken_100 9 rfl (by decide) rfl ?_
      refine g_goto (tgt := 15) hX dX0_findTaken_103 (by decide) ?_
      exact g_sub [3, 4, 5, 6, 7, 8, 9, 1, 0] rfl h
    · replace h := h.2 (gnn c16)
      refine g_iload hX dX0_findTaken_71 9 rfl ?_
      exact g_iret hX hE dX0_findTaken_73 ⟨h, hs⟩
set_option maxRecDepth 100000 in
set_option maxHeartbeats 4000000 in
theorem c_X0_findTaken (l : Launch) {G : gG} (hG : gInj G) (s : gS) (k1 : Int) (k2 : Int) (_ : Int) (x4 : Int) (x5 : Int) (p0 : gRg s) (p1 : gMs s) (p2 : 100 ≤ k1 ∧ k1 < 106) (p3 : 130 ≤ k2 ∧ k2 < 140) (p4 : gPc s k1) (p5 : gRd s k2) (p6 : 0 ≤ x4 ∧ x4 < s.1 k1 2) (p7 : 0 ≤ x5 ∧ x5 ≤ s.1 k2 1) (p8 : gBr s (200 + (x4 + 1)) (s.1 k2 1)) : gMet l G yX0_findTaken cX0_findTaken 10 (some .int) 3 [gR G 4, gR G k1, gR G k2, gR G 3, vi x4, vi x5] s (gPi (fun v s' => (gTaken s k1 k2 x4 x5 v ∧ s' = s) ∧ gRg s')) := by
  refine gMet_of (plainFor_of_name (by decide)) hG (Nat.le_of_ble_eq_true rfl) (fun X hX hE => ?_)
  refine bk_X0_findTaken_0 hX hE s p0 k1 k2 x4 x5 p2 p3 ?_
  obtain ⟨m0, m1, m2, m3, m4⟩ := p1
  have hpc := p4.2 x4 p6.1 p6.2
  have hrd := p5.1
  have hps := p4.1
  refine gloop (α := Int) (hi := s.1 k2 1 - x5) (fun i c => 0 ≤ i ∧ c = gsum (fun q => grc (s.1 3 1) (s.2 (k2 + 10) (x5 + q)) (s.2 (k1 + 10) x4)) i ∧ ∀ t : Int, 0 ≤ t → t < i → gCst (s.1 3) (s.2 (k2 + 10)) (s.2 (k1 + 10)) (s.2 (k1 + 20)) x4 x5 t + s.2 (200 + (x4 + 1)) (x5 + t) ≠ s.2 (200 + x4) x5) (fun i c => gWL X G s 15 [(0, gR G 4), (1, gR G k1), (2, gR G k2), (3, gR G 3), (4, vi x4), (5, vi x5), (6, vi (s.1 k2 1 - x5)), (7, vi c), (8, vi i)] []) ?_ ?_ 0 0 (by omega) ⟨by omega, rfl, fun t t0 t1 => by omega⟩
  · intro i c hi ⟨h0, hc, hn⟩ next
    have hF : (c + gsc (s.1 3 0) (s.1 3 2) (s.1 3 3) i (s.2 (k1 + 20) x4)) + s.2 (200 + (x4 + 1)) (x5 + i) = gCst (s.1 3) (s.2 (k2 + 10)) (s.2 (k1 + 10)) (s.2 (k1 + 20)) x4 x5 i + s.2 (200 + (x4 + 1)) (x5 + i) := by
      unfold gCst; rw [hc]
    have hb := gCst_bd (M := s.1 3) (rd := s.2 (k2 + 10)) (pt := s.2 (k1 + 10)) (bt := s.2 (k1 + 20)) (k := x4) (i := x5) (t := i) m0 m1 m2 m3 (by omega) hpc.2
    have hB := p8 (x5 + i) (by omega) (by omega)
    refine bk_X0_findTaken_15 hX hE s p0 k1 k2 x4 x5 _ c i p2 p3 ⟨rng_of (by omega) (by omega), rng_of (by omega) (by omega), fun h => by omega, fun _ => ⟨by omega, ⟨m0, m1, m2, m3, m4⟩, by omega, hpc.2, by omega, by omega, by omega, by omega, by rw [hF]; exact rng_of (by omega) (by omega), fun h => ⟨by omega, p5.2 _ (by omega) (by omega), hpc.1, next _ ⟨by omega, by rw [gsum_s _ h0, hc], fun t t0 t1 => ?_⟩⟩, fun h => ⟨⟨by omega, hn, fun _ => ?_⟩, rfl⟩⟩⟩
    · by_cases e : t = i
      · subst e; rw [← hF]; exact h
      · exact hn t t0 (by omega)
    · rw [← hF]; exact h
  · intro c ⟨h0, hc, hn⟩
    exact bk_X0_findTaken_15 hX hE s p0 k1 k2 x4 x5 _ c _ p2 p3 ⟨rng_of (by omega) (by omega), rng_of (by omega) (by omega), fun _ => ⟨⟨by omega, hn, fun h => by omega⟩, rfl⟩, fun h => by omega⟩
set_option maxRecDepth 100000 in
set_option maxHeartbeats 4000000 in
theorem bk_X0_layForward_0 {X : gX} {G : gG} (hX : gOk X G cX0_layForward 7 RX0 none 4) {Q : gS → Prop} (hE : gEnd X G (gPv (fun s' => Q s' ∧ gRg s'))) (s : gS) (hs : gRg s) (k1 : Int) (k2 : Int) (hk1 : 100 ≤ k1 ∧ k1 < 106) (hk2 : 130 ≤ k2 ∧ k2 < 140) (h : gWL X G s 6 [(0, gR G 4), (1, gR G k1), (2, gR G k2), (3, gR G 3), (4, vi 0), (5, vi 0)] []) : gWL X G s 0 [(0, gR G 4), (1, gR G k1), (2, gR G k2), (3, gR G 3)] [] := by
  refine g_iconst hX dX0_layForward_0 ?_
  refine g_istore (loc' := [(4, vi 0), (0, gR G 4), (1, gR G k1), (2, gR G k2), (3, gR G 3)]) hX dX0_layForward_1 (by decide) rfl ?_
  refine g_iconst hX dX0_layForward_3 ?_
  refine g_istore (loc' := [(5, vi 0), (4, vi 0), (0, gR G 4), (1, gR G k1), (2, gR G k2), (3, gR G 3)]) hX dX0_layForward_4 (by decide) rfl ?_
  exact g_sub [2, 3, 4, 5, 1, 0] rfl h
set_option maxRecDepth 100000 in
set_option maxHeartbeats 4000000 in
theorem bk_X0_layForward_6 {X : gX} {G : gG} (hX : gOk X G cX0_layForward 7 RX0 none 4) {Q : gS → Prop} (hE : gEnd X G (gPv (fun s' => Q s' ∧ gRg s'))) (s : gS) (hs : gRg s) (k1 : Int) (k2 : Int) (x4 : Int) (x5 : Int) (hk1 : 100 ≤ k1 ∧ k1 < 106) (hk2 : 130 ≤ k2 ∧ k2 < 140) (h : (rng x5) ∧ (((s.1 4 4) ≤ x5 → Q s) ∧ (x5 < (s.1 4 4) → (gMs s) ∧ (100 ≤ k1 ∧ k1 < 106) ∧ (130 ≤ k2 ∧ k2 < 140) ∧ (gPc s k1) ∧ (gRd s k2) ∧ (0 ≤ x5 ∧ x5 < s.1 k1 2) ∧ (0 ≤ x4 ∧ x4 ≤ s.1 k2 1) ∧ (gBr s (200 + (x5 + 1)) (s.1 k2 1)) ∧ (∀ (v13 : Int) (s11 : gS), ((gTaken s k1 k2 x5 x4 v13 ∧ s11 = s) ∧ gRg s11) → (rng v13) ∧ ((¬ v13 = 0 → (0 ≤ x5 ∧ x5 < 24) ∧ (rng x4) ∧ gWL X G (gpA (gpA s11 9 x5 x4) 10 x5 v13) 6 [(0, gR G 4), (1, gR G k1), (2, gR G k2), (3, gR G 3), (4, vi (x4 + v13)), (5, vi (x5 + 1))] []) ∧ (v13 = 0 → (0 ≤ x5 ∧ x5 < 24) ∧ gWL X G (gpA (gpA s11 9 x5 (-1)) 10 x5 v13) 6 [(0, gR G 4), (1, gR G k1), (2, gR G k2), (3, gR G 3), (4, vi (x4 + v13)), (5, vi (x5 + 1))] [])))))) : gWL X G s 6 [(0, gR G 4), (1, gR G k1), (2, gR G k2), (3, gR G 3), (4, vi x4), (5, vi x5)] [] := by
  refine g_iload hX dX0_layForward_6 5 rfl ?_
  refine g_aload_n hX dX0_layForward_8 0 rfl ?_
  refine g_getI hX sh_4 4 rfl fl_X0_24 dX0_layForward_9 ?_
  obtain ⟨h1, h⟩ := h
  refine g_icge (tgt := 68) hX h1 (hs.1 _ _) dX0_layForward_12 (by decide) (fun c2 => ?_) (fun c2 => ?_)
  · replace h := h.1 c2
    exact g_vret hX hE dX0_layForward_68 ⟨h, hs⟩
  · replace h := h.2 (Int.not_le.mp c2)
    refine g_aload_n hX dX0_layForward_15 0 rfl ?_
    refine g_aload_n hX dX0_layForward_16 1 rfl ?_
    refine g_aload_n hX dX0_layForward_17 2 rfl ?_
    refine g_aload_n hX dX0_layForward_18 3 rfl ?_
    refine g_iload hX dX0_layForward_19 5 rfl ?_
    refine g_iload hX dX0_layForward_21 4 rfl ?_
    obtain ⟨h3, h⟩ := h
    obtain ⟨h4, h⟩ := h
    obtain ⟨h5, h⟩ := h
    obtain ⟨h6, h⟩ := h
    obtain ⟨h7, h⟩ := h
    obtain ⟨h8, h⟩ := h
    obtain ⟨h9, h⟩ := h
    obtain ⟨h10, h⟩ := h
    refine g_cVr (As := [gR G k1, gR G k2, gR G 3, vi x5, vi x4]) hX (fun l => c_X0_findTaken l hX.inj s k1 k2 3 x5 x4 hs h3 h4 h5 h6 h7 h8 h9 h10) sh_4 cv_X0_118 (by decide) rfl (Nat.le_of_ble_eq_true rfl) dX0_layForward_23 rfl (fun v13 s11 q12 => ?_)
    replace h := h v13 s11 q12
    have rs11 : gRg s11 := q12.2
    refine g_istore (loc' := [(6, vi v13), (0, gR G 4), (1, gR G k1), (2, gR G k2), (3, gR G 3), (4, vi x4), (5, vi x5)]) hX dX0_layForward_26 (by decide) rfl ?_
    refine g_aload_n hX dX0_layForward_28 1 rfl ?_
    refine g_getR hX sh_4 0 rfl fl_X0_9 dX0_layForward_29 ?_
    refine g_iload hX dX0_layForward_32 6 rfl ?_
    refine g_iload hX dX0_layForward_34 0 rfl ?_
    obtain ⟨h14, h⟩ := h
    refine g_ifne (tgt := 43) hX h14 dX0_layForward_36 (by decide) (fun c15 => ?_) (fun c15 => ?_)
    · replace h := h.1 c15
      refine g_iload hX dX0_layForward_43 5 rfl ?_
      obtain ⟨h16, h⟩ := h
      obtain ⟨h17, h⟩ := h
      refine g_iast hX sh_9 h16 (by decide) dX0_layForward_45 ?_
      refine g_aload_n hX dX0_layForward_46 1 rfl ?_
      refine g_getR hX sh_4 1 rfl fl_X0_15 dX0_layForward_47 ?_
      refine g_iload hX dX0_layForward_50 6 rfl ?_
      refine g_iload hX dX0_layForward_52 0 rfl ?_
      refine g_iast hX sh_10 h16 (by decide) dX0_layForward_54 ?_
      refine g_iload hX dX0_layForward_55 5 rfl ?_
      refine g_iload hX dX0_layForward_57 0 rfl ?_
      refine g_iadd hX dX0_layForward_59 ?_
      refine g_istore (loc' := [(4, vi (x4 + v13)), (6, vi v13), (0, gR G 4), (1, gR G k1), (2, gR G k2), (3, gR G 3), (5, vi x5)]) hX dX0_layForward_60 (by decide) rfl ?_
      refine g_iinc (loc' := [(5, vi (x5 + 1)), (4, vi (x4 + v13)), (6, vi v13), (0, gR G 4), (1, gR G k1), (2, gR G k2), (3, gR G 3)]) hX dX0_layForward_62 6 rfl (by decide) rfl ?_
      refine g_goto (tgt := 6) hX dX0_layForward_65 (by decide) ?_
      exact g_sub [3, 4, 5, 6, 1, 0] rfl h
    · replace h := h.2 (gnn c15)
      refine g_iconst hX dX0_layForward_39 ?_
      refine g_goto (tgt := 45) hX dX0_layForward_40 (by decide) ?_
      obtain ⟨h18, h⟩ := h
      refine g_iast hX sh_9 h18 (by decide) dX0_layForward_45 ?_
      refine g_aload_n hX dX0_layForward_46 1 rfl ?_
      refine g_getR hX sh_4 1 rfl fl_X0_15 dX0_layForward_47 ?_
      refine g_iload hX dX0_layForward_50 6 rfl ?_
      refine g_iload hX dX0_layForward_52 0 rfl ?_
      refine g_iast hX sh_10 h18 (by decide) dX0_layForward_54 ?_
      refine g_iload hX dX0_layForward_55 5 rfl ?_
      refine g_iload hX dX0_layForward_57 0 rfl ?_
      refine g_iadd hX dX0_layForward_59 ?_
      refine g_istore (loc' := [(4, vi (x4 + v13)), (6, vi v13), (0, gR G 4), (1, gR G k1), (2, gR G k2), (3, gR G 3), (5, vi x5)]) hX dX0_layForward_60 (by decide) rfl ?_
      refine g_iinc (loc' := [(5, vi (x5 + 1)), (4, vi (x4 + v13)), (6, vi v13), (0, gR G 4), (1, gR G k1), (2, gR G k2), (3, gR G 3)]) hX dX0_layForward_62 6 rfl (by decide) rfl ?_
      refine g_goto (tgt := 6) hX dX0_layForward_65 (by decide) ?_
      exact g_sub [3, 4, 5, 6, 1, 0] rfl h
set_option maxRecDepth 100000 in
set_option maxHeartbeats 4000000 in
theorem c_X0_layForward (l : Launch) {G : gG} (hG : gInj G) (s : gS) (k1 : Int) (k2 : Int) (_ : Int) (p0 : gRg s) (p1 : gMs s) (p2 : 100 ≤ k1 ∧ k1 < 106) (p3 : 130 ≤ k2 ∧ k2 < 140) (p4 : gPc s k1) (p5 : gRd s k2) (p6 : s.1 4 4 = s.1 k1 2) (p7 : ∀ k : Int, 0 ≤ k → k < s.1 k1 2 → gBr s (200 + (k + 1)) (s.1 k2 1)) (p8 : gDPs s k1 k2) : gMet l G yX0_layForward cX0_layForward 7 none 4 [gR G 4, gR G k1, gR G k2, gR G 3] s (gPv (fun s' => (goff2 s s' 9 10 ∧ ∃ pos : Int → Int, gTks s k1 k2 pos (s'.2 10) ∧ ∀ k : Int, 0 ≤ k → k < s.1 k1 2 → s'.2 9 k = if s'.2 10 k = 0 then -1 else pos k) ∧ gRg s')) := by
  refine gMet_of (plainFor_of_name (by decide)) hG (Nat.le_of_ble_eq_true rfl) (fun X hX hE => ?_)
  refine bk_X0_layForward_0 hX hE s p0 k1 k2 p2 p3 ?_
  have hps := p4.1
  have hrd := p5.1
  refine gloop (α := gS × (Int → Int)) (hi := s.1 k1 2) (fun k a => 0 ≤ k ∧ gRg a.1 ∧ goff2 s a.1 9 10 ∧ (0 ≤ a.2 k ∧ a.2 k ≤ s.1 k2 1) ∧ gTk (s.1 3) (s.2 (k2 + 10)) (s.2 (k1 + 10)) (s.2 (k1 + 20)) k (s.1 k2 1) (fun k i => s.2 (200 + k) i) a.2 (a.1.2 10) ∧ ∀ q : Int, 0 ≤ q → q < k → a.1.2 9 q = if a.1.2 10 q = 0 then -1 else a.2 q) (fun k a => gWL X G a.1 6 [(0, gR G 4), (1, gR G k1), (2, gR G k2), (3, gR G 3), (4, vi (a.2 k)), (5, vi k)] []) ?_ ?_ 0 (s, fun _ => 0) hps.1 ⟨by omega, p0, goff2.rf _ _ _, by show (0 : Int) ≤ 0 ∧ (0 : Int) ≤ _; omega, ⟨rfl, fun k k0 k1 => by omega⟩, fun q q0 q1 => by omega⟩
  · intro k ⟨t, pos⟩ hk ⟨hk0, hg, ho, hp, htk, hf⟩ next
    dsimp only at hg ho hp htk hf ⊢
    have e1 : t.1 = s.1 := ho.1
    have er : t.2 (k2 + 10) = s.2 (k2 + 10) := ho.2 _ (by omega) (by omega)
    have ep : t.2 (k1 + 10) = s.2 (k1 + 10) := ho.2 _ (by omega) (by omega)
    have eb : t.2 (k1 + 20) = s.2 (k1 + 20) := ho.2 _ (by omega) (by omega)
    have eB : ∀ q : Int, 0 ≤ q → t.2 (200 + q) = s.2 (200 + q) := fun q q0 => ho.2 _ (by omega) (by omega)
    have hMs : gMs t := by unfold gMs; rw [e1]; exact p1
    have hPc : gPc t k1 := by unfold gPc; rw [e1, ep, eb]; exact p4
    have hRd : gRd t k2 := by unfold gRd; rw [e1, er]; exact p5
    have hBr : gBr t (200 + (k + 1)) (t.1 k2 1) := by unfold gBr; rw [e1, eB _ (by omega)]; exact p7 k hk0 hk
    refine bk_X0_layForward_6 hX hE t hg k1 k2 (pos k) k p2 p3 ⟨rng_of (by omega) (by omega), fun h => by rw [e1] at h; omega, fun _ => ⟨hMs, p2, p3, hPc, hRd, by rw [e1]; omega, by rw [e1]; exact hp, hBr, fun v u hu => ?_⟩⟩
    obtain ⟨⟨hv, rfl⟩, -⟩ := hu
    obtain ⟨hv1, hv2, hv3⟩ := hv
    rw [e1, er, ep, eb, eB _ (by omega), eB _ hk0] at hv2 hv3
    rw [e1] at hv1
    have hmn := p8.2 k (pos k) hk0 hk hp.1 hp.2
    have hlast : gCst (s.1 3) (s.2 (k2 + 10)) (s.2 (k1 + 10)) (s.2 (k1 + 20)) k (pos k) v + s.2 (200 + (k + 1)) (pos k + v) = s.2 (200 + k) (pos k) := by
      rcases Int.lt_or_le v (s.1 k2 1 - pos k) with q | q
      · exact hv3 q
      · obtain ⟨⟨j, j1, j2, j3⟩, -⟩ := hmn
        rcases Int.lt_or_le j v with z | z
        · exact absurd j3.symm (hv2 j j1 z)
        · have ej : j = v := by omega
          rw [ej] at j3
          exact j3.symm
    -- the next state, for both ways
    have hnext : ∀ f : Int, rng f → f = (if v = 0 then -1 else pos k) → gWL X G (gpA (gpA u 9 k f) 10 k v) 6 [(0, gR G 4), (1, gR G k1), (2, gR G k2), (3, gR G 3), (4, vi (pos k + v)), (5, vi (k + 1))] [] := by
      intro f hfr hfe
      have hz := next (gpA (gpA u 9 k f) 10 k v, fun q => if q = k + 1 then pos k + v else pos q) ⟨by omega, gRg_A (gRg_A hg hfr) (rng_of (by omega) (by omega)), (ho.put1 _ _).put2 _ _, by show 0 ≤ (if k + 1 = k + 1 then pos k + v else _) ∧ (if k + 1 = k + 1 then pos k + v else _) ≤ _; rw [if_pos rfl]; omega, ⟨?_, fun q q0 q1 => ?_⟩, fun q q0 q1 => ?_⟩
      · have ez : (fun q => if q = k + 1 then pos k + v else pos q) (k + 1) = pos k + v := if_pos rfl
        dsimp only at hz ez
        rw [ez] at hz
        exact hz
      · show (if (0 : Int) = k + 1 then pos k + v else pos 0) = 0
        rw [if_neg (by omega)]; exact htk.1
      · show (0 ≤ (gpA (gpA u 9 k f) 10 k v).2 10 q ∧ (gpA (gpA u 9 k f) 10 k v).2 10 q ≤ s.1 k2 1 - (if q = k + 1 then pos k + v else pos q)) ∧ (if q + 1 = k + 1 then pos k + v else pos (q + 1)) = (if q = k + 1 then pos k + v else pos q) + (gpA (gpA u 9 k f) 10 k v).2 10 q ∧ gCst (s.1 3) (s.2 (k2 + 10)) (s.2 (k1 + 10)) (s.2 (k1 + 20)) q (if q = k + 1 then pos k + v else pos q) ((gpA (gpA u 9 k f) 10 k v).2 10 q) + s.2 (200 + (q + 1)) ((if q = k + 1 then pos k + v else pos q) + (gpA (gpA u 9 k f) 10 k v).2 10 q) = s.2 (200 + q) (if q = k + 1 then pos k + v else pos q) ∧ ∀ t : Int, 0 ≤ t → t < (gpA (gpA u 9 k f) 10 k v).2 10 q → gCst (s.1 3) (s.2 (k2 + 10)) (s.2 (k1 + 10)) (s.2 (k1 + 20)) q (if q = k + 1 then pos k + v else pos q) t + s.2 (200 + (q + 1)) ((if q = k + 1 then pos k + v else pos q) + t) ≠ s.2 (200 + q) (if q = k + 1 then pos k + v else pos q)
        rw [if_neg (by omega : ¬ q = k + 1)]
        by_cases e : q = k
        · subst e
          rw [gpA_eq, if_pos rfl]
          exact ⟨by omega, rfl, hlast, hv2⟩
        · rw [gpA_ni e, gpA_nk (by decide), if_neg (by omega)]
          exact htk.2 q q0 (by omega)
      · show (gpA (gpA u 9 k f) 10 k v).2 9 q = if (gpA (gpA u 9 k f) 10 k v).2 10 q = 0 then -1 else (if q = k + 1 then pos k + v else pos q)
        rw [if_neg (by omega : ¬ q = k + 1), gpA_nk (by decide)]
        by_cases e : q = k
        · subst e
          rw [gpA_eq, gpA_eq]; exact hfe
        · rw [gpA_ni e, gpA_ni e, gpA_nk (by decide)]
          exact hf q q0 (by omega)
    refine ⟨rng_of (by omega) (by omega), fun h => ⟨by omega, rng_of (by omega) (by omega), hnext _ (rng_of (by omega) (by omega)) (by rw [if_neg h])⟩, fun h => ⟨by omega, hnext _ (rng_of (by omega) (by omega)) (by rw [if_pos h])⟩⟩
  · intro ⟨t, pos⟩ ⟨hk0, hg, ho, hp, htk, hf⟩
    dsimp only at hg ho hp htk hf ⊢
    exact bk_X0_layForward_6 hX hE t hg k1 k2 (pos (s.1 k1 2)) (s.1 k1 2) p2 p3 ⟨rng_of (by omega) (by omega), fun _ => ⟨ho, pos, htk, hf⟩, fun h => by rw [ho.1] at h; omega⟩
set_option maxRecDepth 100000 in
set_option maxHeartbeats 4000000 in
theorem bk_X0_findOff_0 {X : gX} {G : gG} (hX : gOk X G cX0_findOff 8 RX0 (some .int) 2) {Q : Int → gS → Prop} (hE : gEnd X G (gPi (fun v s' => Q v s' ∧ gRg s'))) (s : gS) (hs : gRg s) (k1 : Int) (x2 : Int) (x3 : Int) (hk1 : 130 ≤ k1 ∧ k1 < 140) (h : gWL X G s 9 [(0, gR G 4), (1, gR G k1), (2, vi x2), (3, vi x3), (4, vi 0), (5, vi 0), (6, vi 0)] []) : gWL X G s 0 [(0, gR G 4), (1, gR G k1), (2, vi x2), (3, vi x3)] [] := by
  refine g_iconst hX dX0_findOff_0 ?_
  refine g_istore (loc' := [(4, vi 0), (0, gR G 4), (1, gR G k1), (2, vi x2), (3, vi x3)]) hX dX0_findOff_1 (by decide) rfl ?_
  refine g_iconst hX dX0_findOff_3 ?_
  refine g_istore (loc' := [(5, vi 0), (4, vi 0), (0, gR G 4), (1, gR G k1), (2, vi x2), (3, vi x3)]) hX dX0_findOff_4 (by decide) rfl ?_
  refine g_iconst hX dX0_findOff_6 ?_
  refine g_istore (loc' := [(6, vi 0), (5, vi 0), (4, vi 0), (0, gR G 4), (1, gR G k1), (2, vi x2), (3, vi x3)]) hX dX0_findOff_7 (by decide) rfl ?_
  exact g_sub [3, 4, 5, 6, 2, 1, 0] rfl h
set_option maxRecDepth 100000 in
set_option maxHeartbeats 4000000 in
theorem bk_X0_findOff_9 {X : gX} {G : gG} (hX : gOk X G cX0_findOff 8 RX0 (some .int) 2) {Q : Int → gS → Prop} (hE : gEnd X G (gPi (fun v s' => Q v s' ∧ gRg s'))) (s : gS) (hs : gRg s) (k1 : Int) (x2 : Int) (x3 : Int) (x4 : Int) (x5 : Int) (x6 : Int) (hk1 : 130 ≤ k1 ∧ k1 < 140) (h : (0 ≤ x2 ∧ x2 < 24) ∧ (rng x6) ∧ (((s.2 10 x2) ≤ x6 → (rng x4) ∧ ((¬ x4 = 0 → (rng x5) ∧ (0 < x4) ∧ Q (x5 / x4) s) ∧ (x4 = 0 → Q (-100000) s))) ∧ (x6 < (s.2 10 x2) → (0 ≤ ((s.2 9 x2) + x6) ∧ ((s.2 9 x2) + x6) < 120) ∧ (((s.2 (k1 + 10) ((s.2 9 x2) + x6)) = (-1) → gWL X G s 9 [(0, gR G 4), (1, gR G k1), (2, vi x2), (3, vi x3), (4, vi x4), (5, vi x5), (6, vi (x6 + 1))] []) ∧ (¬ ((s.2 (k1 + 10) ((s.2 9 x2) + x6)) = (-1)) → gWL X G s 9 [(0, gR G 4), (1, gR G k1), (2, vi x2), (3, vi x3), (4, vi (x4 + 1)), (5, vi (x5 + ((s.2 (k1 + 10) ((s.2 9 x2) + x6)) - x3))), (6, vi (x6 + 1))] []))))) : gWL X G s 9 [(0, gR G 4), (1, gR G k1), (2, vi x2), (3, vi x3), (4, vi x4), (5, vi x5), (6, vi x6)] [] := by
  refine g_iload hX dX0_findOff_9 6 rfl ?_
  refine g_aload_n hX dX0_findOff_11 0 rfl ?_
  refine g_getR hX sh_4 1 rfl fl_X0_15 dX0_findOff_12 ?_
  refine g_iload_n hX dX0_findOff_15 2 rfl ?_
  obtain ⟨h1, h⟩ := h
  refine g_iald hX sh_10 h1 (by decide) dX0_findOff_16 ?_
  obtain ⟨h2, h⟩ := h
  refine g_icge (tgt := 60) hX h2 (hs.2 _ _) dX0_findOff_17 (by decide) (fun c3 => ?_) (fun c3 => ?_)
  · replace h := h.1 c3
    refine g_iload hX dX0_findOff_60 4 rfl ?_
    obtain ⟨h4, h⟩ := h
    refine g_ifne (tgt := 70) hX h4 dX0_findOff_62 (by decide) (fun c5 => ?_) (fun c5 => ?_)
    · replace h := h.1 c5
      refine g_iload hX dX0_findOff_70 5 rfl ?_
      refine g_iload hX dX0_findOff_72 4 rfl ?_
      obtain ⟨h6, h⟩ := h
      obtain ⟨h7, h⟩ := h
      refine g_cSf (As := [vi x5, vi x4]) hX (fun l => c_J9_floorDiv_7cf53 l hX.inj s x5 x4 hs h6 h4 h7) cv_X0_134 (by decide) rfl (Nat.le_of_ble_eq_true rfl) dX0_findOff_74 rfl (fun g8 => ?_)
      exact g_iret hX hE dX0_findOff_77 ⟨h, hs⟩
    · replace h := h.2 (gnn c5)
      refine g_ldc (n := (-100000)) hX ldc_X0_125 dX0_findOff_65 rfl ?_
      refine g_goto (tgt := 77) hX dX0_findOff_67 (by decide) ?_
      exact g_iret hX hE dX0_findOff_77 ⟨h, hs⟩
  · replace h := h.2 (Int.not_le.mp c3)
    refine g_aload_n hX dX0_findOff_20 1 rfl ?_
    refine g_getR hX (sh_recording (by omega) (by omega)) 0 rfl fl_X0_102 dX0_findOff_21 ?_
    refine g_aload_n hX dX0_findOff_24 0 rfl ?_
    refine g_getR hX sh_4 0 rfl fl_X0_9 dX0_findOff_25 ?_
    refine g_iload_n hX dX0_findOff_28 2 rfl ?_
    refine g_iald hX sh_9 h1 (by decide) dX0_findOff_29 ?_
    refine g_iload hX dX0_findOff_30 6 rfl ?_
    refine g_iadd hX dX0_findOff_32 ?_
    obtain ⟨h9, h⟩ := h
    refine g_iald hX (sh_readings (by omega) (by omega)) h9 (by decide) dX0_findOff_33 ?_
    refine g_istore (loc' := [(7, vi (s.2 (k1 + 10) ((s.2 9 x2) + x6))), (0, gR G 4), (1, gR G k1), (2, vi x2), (3, vi x3), (4, vi x4), (5, vi x5), (6, vi x6)]) hX dX0_findOff_34 (by decide) rfl ?_
    refine g_iload hX dX0_findOff_36 0 rfl ?_
    refine g_iconst hX dX0_findOff_38 ?_
    refine g_iceq (tgt := 54) hX (hs.2 _ _) (by unfold rng; omega) dX0_findOff_39 (by decide) (fun c10 => ?_) (fun c10 => ?_)
    · replace h := h.1 c10
      refine g_iinc (loc' := [(6, vi (x6 + 1)), (7, vi (s.2 (k1 + 10) ((s.2 9 x2) + x6))), (0, gR G 4), (1, gR G k1), (2, vi x2), (3, vi x3), (4, vi x4), (5, vi x5)]) hX dX0_findOff_54 7 rfl (by decide) rfl ?_
      refine g_goto (tgt := 9) hX dX0_findOff_57 (by decide) ?_
      exact g_sub [2, 3, 4, 5, 6, 7, 0] rfl h
    · replace h := h.2 c10
      refine g_iinc (loc' := [(4, vi (x4 + 1)), (7, vi (s.2 (k1 + 10) ((s.2 9 x2) + x6))), (0, gR G 4), (1, gR G k1), (2, vi x2), (3, vi x3), (5, vi x5), (6, vi x6)]) hX dX0_findOff_42 5 rfl (by decide) rfl ?_
      refine g_iload hX dX0_findOff_45 6 rfl ?_
      refine g_iload hX dX0_findOff_47 1 rfl ?_
      refine g_iload_n hX dX0_findOff_49 5 rfl ?_
      refine g_isub hX dX0_findOff_50 ?_
      refine g_iadd hX dX0_findOff_51 ?_
      refine g_istore (loc' := [(5, vi (x5 + ((s.2 (k1 + 10) ((s.2 9 x2) + x6)) - x3))), (4, vi (x4 + 1)), (7, vi (s.2 (k1 + 10) ((s.2 9 x2) + x6))), (0, gR G 4), (1, gR G k1), (2, vi x2), (3, vi x3), (6, vi x6)]) hX dX0_findOff_52 (by decide) rfl ?_
      refine g_iinc (loc' := [(6, vi (x6 + 1)), (5, vi (x5 + ((s.2 (k1 + 10) ((s.2 9 x2) + x6)) - x3))), (4, vi (x4 + 1)), (7, vi (s.2 (k1 + 10) ((s.2 9 x2) + x6))), (0, gR G 4), (1, gR G k1), (2, vi x2), (3, vi x3)]) hX dX0_findOff_54 7 rfl (by decide) rfl ?_
      refine g_goto (tgt := 9) hX dX0_findOff_57 (by decide) ?_
      exact g_sub [4, 5, 6, 7, 2, 1, 0] rfl h
set_option maxRecDepth 100000 in
set_option maxHeartbeats 4000000 in
theorem c_X0_findOff (l : Launch) {G : gG} (hG : gInj G) (s : gS) (k1 : Int) (x2 : Int) (x3 : Int) (p0 : gRg s) (p1 : 130 ≤ k1 ∧ k1 < 140) (p2 : 0 ≤ x2 ∧ x2 < 24) (p3 : 0 ≤ x3 ∧ x3 ≤ 4800) (p4 : gRd s k1) (p5 : gSp s k1 x2) : gMet l G yX0_findOff cX0_findOff 8 (some .int) 2 [gR G 4, gR G k1, vi x2, vi x3] s (gPi (fun v s' => (v = (gof (fun q => s.2 (k1 + 10) (s.2 9 x2 + q)) x3 (s.2 10 x2)) ∧ s' = s) ∧ gRg s')) := by
  refine gMet_of (plainFor_of_name (by decide)) hG (Nat.le_of_ble_eq_true rfl) (fun X hX hE => ?_)
  refine bk_X0_findOff_0 hX hE s p0 k1 x2 x3 p1 ?_
  have hrd := p4.1
  obtain ⟨hs1, hs2⟩ := p5
  refine gloop (α := Int × Int) (hi := s.2 10 x2) (fun i a => 0 ≤ i ∧ a.1 = gsum (fun q => if s.2 (k1 + 10) (s.2 9 x2 + q) = -1 then 0 else 1) i ∧ a.2 = gsum (fun q => if s.2 (k1 + 10) (s.2 9 x2 + q) = -1 then 0 else s.2 (k1 + 10) (s.2 9 x2 + q) - x3) i) (fun i a => gWL X G s 9 [(0, gR G 4), (1, gR G k1), (2, vi x2), (3, vi x3), (4, vi a.1), (5, vi a.2), (6, vi i)] []) ?_ ?_ 0 (0, 0) hs1.1 ⟨by omega, rfl, rfl⟩
  · intro i ⟨c, o⟩ hi ⟨h0, hc, ho⟩ next
    dsimp only at hc ho ⊢
    refine bk_X0_findOff_9 hX hE s p0 k1 x2 x3 c o i p1 ⟨p2, rng_of (by omega) (by omega), fun h => by omega, fun _ => ⟨by omega, fun h => next (c, o) ⟨by omega, ?_, ?_⟩, fun h => next (c + 1, o + (s.2 (k1 + 10) (s.2 9 x2 + i) - x3)) ⟨by omega, ?_, ?_⟩⟩⟩
    · show c = _; rw [gsum_s _ h0, if_pos h, hc]; omega
    · show o = _; rw [gsum_s _ h0, if_pos h, ho]; omega
    · show c + 1 = _; rw [gsum_s _ h0, if_neg h, hc]
    · show o + _ = _; rw [gsum_s _ h0, if_neg h, ho]
  · intro ⟨c, o⟩ ⟨h0, hc, ho⟩
    dsimp only at hc ho ⊢
    have hcb := gsum_bd (f := fun q => if s.2 (k1 + 10) (s.2 9 x2 + q) = -1 then 0 else 1) (n := s.2 10 x2) (lo := 0) (hi := 1) hs1.1 (fun q _ _ => by split <;> omega)
    have hob := gsum_bd (f := fun q => if s.2 (k1 + 10) (s.2 9 x2 + q) = -1 then 0 else s.2 (k1 + 10) (s.2 9 x2 + q) - x3) (n := s.2 10 x2) (lo := -4800) (hi := 4800) hs1.1 (fun q q0 q1 => by
      have := p4.2 (s.2 9 x2 + q) (by omega) (by omega)
      split <;> omega)
    rw [← hc] at hcb
    rw [← ho] at hob
    refine bk_X0_findOff_9 hX hE s p0 k1 x2 x3 c o _ p1 ⟨p2, rng_of (by omega) (by omega), fun _ => ⟨rng_of (by omega) (by omega), fun h => ⟨rng_of (by omega) (by omega), by omega, ?_, rfl⟩, fun h => ⟨?_, rfl⟩⟩, fun h => by omega⟩
    · unfold gof; rw [← hc, ← ho, if_neg h]
    · unfold gof; rw [← hc, if_pos h]

