theorem fl_X8_60 : gFL RX8 60 8 17 := ⟨RX8, TX8, 34, tyX8, rfl, by decide, inG_X8, (gm_3 55 rfl rfl), tyX8_ok, nmX8, fun h => absurd h (by decide)⟩
theorem fl_X8_63 : gFL RX8 63 8 18 := ⟨RX8, TX8, 34, tyX8, rfl, by decide, inG_X8, (gm_3 56 rfl rfl), tyX8_ok, nmX8, fun h => absurd h (by decide)⟩
theorem fl_X8_66 : gFL RX8 66 8 19 := ⟨RX8, TX8, 34, tyX8, rfl, by decide, inG_X8, (gm_3 57 rfl rfl), tyX8_ok, nmX8, fun h => absurd h (by decide)⟩
theorem fl_X8_141 : gFL RX8 141 8 16 := ⟨RX8, TX8, 34, tyX8, rfl, by decide, inG_X8, (gm_3 54 rfl rfl), tyX8_ok, nmX8, fun _ => rfl⟩
theorem cv_X8_144 : gCS RX8 144 yX8_ones cX8_ones 3 (some .int) 1 := ⟨(gm_3 217 rfl rfl), (gm_3 218 rfl rfl), (gm_1 9 rfl rfl), (gm_3 219 rfl rfl), ⟨by decide, by decide, by decide +kernel⟩, by decide⟩
theorem cv_X8_149 : gCV RX8 149 yX8_hasJudge cX8_hasJudge 2 (some .boolean) 1 8 := ⟨TX8, 34, rfl, (gm_3 229 rfl rfl), (gm_3 231 rfl rfl), (gm_s 24 rfl rfl), (gm_1 9 rfl rfl), (gm_3 232 rfl rfl), ⟨by decide, by decide, by decide +kernel⟩, by decide⟩
theorem cv_X8_152 : gCV RX8 152 yX8_ranked cX8_ranked 6 (some .int) 3 8 := ⟨TX8, 34, rfl, (gm_4 6 rfl rfl), (gm_4 8 rfl rfl), (gm_s 27 rfl rfl), (gm_1 9 rfl rfl), (gm_4 9 rfl rfl), ⟨by decide, by decide, by decide +kernel⟩, by decide⟩
theorem cv_X8_160 : gCV RX8 160 yX8_sings cX8_sings 2 (some .boolean) 1 8 := ⟨TX8, 34, rfl, (gm_3 237 rfl rfl), (gm_3 239 rfl rfl), (gm_s 25 rfl rfl), (gm_1 9 rfl rfl), (gm_4 0 rfl rfl), ⟨by decide, by decide, by decide +kernel⟩, by decide⟩
theorem ldc_X8_147 : Cond.constantLong RX8 147 15 ∈ gAll := (gm_3 224 rfl rfl)
/-! ===== the reference's judges ===== -/
def mclub (y : Int64) (i : Int) : Int := gl2i ((glshr y (4 * i)) &&& 15)
def mhj (s : gS) (j : Int) : Bool := decide (0 < (s.2 418 j) ∧ (s.2 419 j) = (s.1 400 16))
def mrk (s : gS) (j c : Int) : Int := s.2 420 ((10 * j) + c)
def mRk (s : gS) : Prop := ∀ i : Int, 0 ≤ i → i < 90 → 0 ≤ s.2 420 i ∧ s.2 420 i ≤ 10
def mranked (s : gS) (c k b : Int) : Int := if b = 0 then gC (mhj s) (mrk s) c k else gT (mhj s) (mrk s) c k
def gag (hj : Int → Bool) (rk : Int → Int → Int) (a b : Int) : Int → Nat → Int
  | _, 0 => 0
  | q, n + 1 => if gC hj rk b q - gC hj rk a q = 0 then (if gT hj rk a q - gT hj rk b q = 0 then gag hj rk a b (q + 1) n else gT hj rk a q - gT hj rk b q) else gC hj rk b q - gC hj rk a q
theorem gag_s (hj : Int → Bool) (rk : Int → Int → Int) (a b q : Int) (n : Nat) : gag hj rk a b q (n + 1) = if gC hj rk b q - gC hj rk a q = 0 then (if gT hj rk a q - gT hj rk b q = 0 then gag hj rk a b (q + 1) n else gT hj rk a q - gT hj rk b q) else gC hj rk b q - gC hj rk a q := rfl
def mag (s : gS) (a b k : Int) : Int := gag (mhj s) (mrk s) a b k (gones (s.1 400 16) + 1 - k).toNat
theorem gsum_tail {f : Int → Int} {m n : Int} (h0 : 0 ≤ m) (h1 : m ≤ n) (h : ∀ i, m ≤ i → i < n → f i = 0) : gsum f n = gsum f m := by
  have key : ∀ (d : Nat) (n : Int), n = m + d → (∀ i, m ≤ i → i < n → f i = 0) → gsum f n = gsum f m := by
    intro d
    induction d with
    | zero => intro n hn _; rw [show n = m by omega]
    | succ d ih =>
      intro n hn hz
      have e : n = (n - 1) + 1 := by omega
      rw [e, gsum_s _ (by omega), ih (n - 1) (by omega) (fun i a b => hz i a (by omega)), hz (n - 1) (by omega) (by omega)]
      omega
  exact key (n - m).toNat n (by omega) h
theorem gones_bd (b : Int) : 0 ≤ gones b ∧ gones b ≤ 30 := by
  have := gsum_bd (f := fun k => gbit b k) (n := 30) (lo := 0) (hi := 1) (by omega) (fun i h0 h1 => by have := gbit01 (b := b) (i := i) h0 (by omega); omega)
  unfold gones; omega
theorem gones_n {b : Int} (n : Nat) (hn : n < 30) (h0 : 0 ≤ b) (h1 : b < (2 ^ n : Nat)) : gones b = gsum (fun k => gbit b k) n := by
  unfold gones
  exact gsum_tail (by omega) (by omega) (fun i h2 h3 => gbit_hi n h0 h1 h2 (by omega) (by omega))
theorem gones_10 {b : Int} (h0 : 0 ≤ b) (h1 : b < 1024) : gones b ≤ 10 := by
  rw [gones_n 10 (by omega) h0 h1]
  have := gsum_bd (f := fun k => gbit b k) (n := 10) (lo := 0) (hi := 1) (by omega) (fun i h0 h1 => by have := gbit01 (b := b) (i := i) h0 (by omega); omega)
  have e : ((10 : Nat) : Int) = 10 := rfl
  rw [e]; omega
theorem mclub_bd (y : Int64) (i : Int) : 0 ≤ mclub y i ∧ mclub y i ≤ 15 := by
  have e : mclub y i = gand (gl2i (glshr y (4 * i))) 15 := by
    unfold mclub gl2i gand
    rw [Int64.toInt32_and, Int32.ofInt_toInt]
    rfl
  rw [e]
  exact gand15 _
theorem mT_bd {s : gS} {c k : Int} (h : mRk s) (h0 : 0 ≤ c) (h1 : c < 10) : 0 ≤ gT (mhj s) (mrk s) c k ∧ gT (mhj s) (mrk s) c k ≤ 90 := gT_bd (fun j a b => h _ (by omega) (by omega))
set_option maxRecDepth 100000 in
set_option maxHeartbeats 4000000 in
theorem bk_X8_judge_0 {X : gX} {G : gG} (hX : gOk X G cX8_judge 8 RX8 (some .boolean) 2) {Q : Int → gS → Prop} (hE : gEnd X G (gPi (fun v s' => Q v s' ∧ gRg s'))) (s : gS) (hs : gRg s) (x1 : Int) (x2 : Int) (y3 : Int64)  (h : (rng x1) ∧ ((¬ (0 ≤ x1 ∧ x1 ≤ 8) → Q 0 s) ∧ (0 ≤ x1 ∧ x1 ≤ 8 → (rng x2) ∧ ((0 ≤ x2 ∧ x2 ≤ 10 → gWL X G s 28 [(0, gR G 400), (1, vi x1), (2, vi x2), (3, .long y3), (5, vi 0), (6, vi 0)] []) ∧ (¬ (0 ≤ x2 ∧ x2 ≤ 10) → Q 0 s))))) : gWL X G s 0 [(0, gR G 400), (1, vi x1), (2, vi x2), (3, .long y3)] [] := by
  refine g_iload_n hX dX8_judge_0 1 rfl ?_
  refine g_iconst hX dX8_judge_1 ?_
  refine g_bipush hX dX8_judge_2 rfl ?_
  obtain ⟨h1, h⟩ := h
  refine g_cSf (As := [vi x1, vi 0, vi 8]) hX (fun l => c_X8_isIn l hX.inj s x1 0 8 hs h1 (by unfold rng; omega) (by unfold rng; omega)) cv_X8_102 (by decide) rfl (Nat.le_of_ble_eq_true rfl) dX8_judge_4 rfl (fun g2 => ?_)
  refine g_ifeq (tgt := 20) hX (gb_rng _) dX8_judge_7 (by decide) (fun c3 => ?_) (fun c3 => ?_)
  · replace h := h.1 (gb_eq0.mp c3)
    refine g_iconst hX dX8_judge_20 ?_
    exact g_zret hX hE (Or.inl rfl) dX8_judge_21 ⟨h, hs⟩
  · replace h := h.2 (gb_n0.mp c3)
    refine g_iload_n hX dX8_judge_10 2 rfl ?_
    refine g_iconst hX dX8_judge_11 ?_
    refine g_bipush hX dX8_judge_12 rfl ?_
    obtain ⟨h4, h⟩ := h
    refine g_cSf (As := [vi x2, vi 0, vi 10]) hX (fun l => c_X8_isIn l hX.inj s x2 0 10 hs h4 (by unfold rng; omega) (by unfold rng; omega)) cv_X8_102 (by decide) rfl (Nat.le_of_ble_eq_true rfl) dX8_judge_14 rfl (fun g5 => ?_)
    refine g_ifne (tgt := 22) hX (gb_rng _) dX8_judge_17 (by decide) (fun c6 => ?_) (fun c6 => ?_)
    · replace h := h.1 (gb_n0.mp c6)
      refine g_iconst hX dX8_judge_22 ?_
      refine g_istore (loc' := [(5, vi 0), (0, gR G 400), (1, vi x1), (2, vi x2), (3, .long y3)]) hX dX8_judge_23 (by decide) rfl ?_
      refine g_iconst hX dX8_judge_25 ?_
      refine g_istore (loc' := [(6, vi 0), (5, vi 0), (0, gR G 400), (1, vi x1), (2, vi x2), (3, .long y3)]) hX dX8_judge_26 (by decide) rfl ?_
      exact g_sub [2, 3, 4, 5, 1, 0] rfl h
    · replace h := h.2 (gb_eq0.mp (gnn c6))
      refine g_iconst hX dX8_judge_20 ?_
      exact g_zret hX hE (Or.inl rfl) dX8_judge_21 ⟨h, hs⟩
set_option maxRecDepth 100000 in
set_option maxHeartbeats 4000000 in
theorem bk_X8_judge_28 {X : gX} {G : gG} (hX : gOk X G cX8_judge 8 RX8 (some .boolean) 2) {Q : Int → gS → Prop} (hE : gEnd X G (gPi (fun v s' => Q v s' ∧ gRg s'))) (s : gS) (hs : gRg s) (x1 : Int) (x2 : Int) (y3 : Int64) (x5 : Int) (x6 : Int)  (h : (rng x6) ∧ (rng x2) ∧ ((x2 ≤ x6 → (0 ≤ x1 ∧ x1 < 9) ∧ (rng x5) ∧ gWL X G (gpA (gpA s 418 x1 x2) 419 x1 x5) 100 [(0, gR G 400), (1, vi x1), (2, vi x2), (3, .long y3), (6, vi 0)] []) ∧ (x6 < x2 → ((10 ≤ (gl2i ((glshr y3 (4 * x6)) &&& 15)) → Q 0 s) ∧ ((gl2i ((glshr y3 (4 * x6)) &&& 15)) < 10 → ((¬ (gand (gshr x5 (gl2i ((glshr y3 (4 * x6)) &&& 15))) 1) = 1 → gWL X G s 28 [(0, gR G 400), (1, vi x1), (2, vi x2), (3, .long y3), (5, vi (gor x5 (gshl 1 (gl2i ((glshr y3 (4 * x6)) &&& 15))))), (6, vi (x6 + 1))] []) ∧ ((gand (gshr x5 (gl2i ((glshr y3 (4 * x6)) &&& 15))) 1) = 1 → Q 0 s))))))) : gWL X G s 28 [(0, gR G 400), (1, vi x1), (2, vi x2), (3, .long y3), (5, vi x5), (6, vi x6)] [] := by
  refine g_iload hX dX8_judge_28 5 rfl ?_
  refine g_iload_n hX dX8_judge_30 2 rfl ?_
  obtain ⟨h1, h⟩ := h
  obtain ⟨h2, h⟩ := h
  refine g_icge (tgt := 82) hX h1 h2 dX8_judge_31 (by decide) (fun c3 => ?_) (fun c3 => ?_)
  · replace h := h.1 c3
    refine g_aload_n hX dX8_judge_82 0 rfl ?_
    refine g_getR hX sh_400 17 rfl fl_X8_60 dX8_judge_83 ?_
    refine g_iload_n hX dX8_judge_86 1 rfl ?_
    refine g_iload_n hX dX8_judge_87 2 rfl ?_
    obtain ⟨h4, h⟩ := h
    refine g_iast hX sh_418 h4 (by decide) dX8_judge_88 ?_
    refine g_aload_n hX dX8_judge_89 0 rfl ?_
    refine g_getR hX sh_400 18 rfl fl_X8_63 dX8_judge_90 ?_
    refine g_iload_n hX dX8_judge_93 1 rfl ?_
    refine g_iload hX dX8_judge_94 4 rfl ?_
    obtain ⟨h5, h⟩ := h
    refine g_iast hX sh_419 h4 (by decide) dX8_judge_96 ?_
    refine g_iconst hX dX8_judge_97 ?_
    refine g_istore (loc' := [(6, vi 0), (0, gR G 400), (1, vi x1), (2, vi x2), (3, .long y3), (5, vi x5)]) hX dX8_judge_98 (by decide) rfl ?_
    exact g_sub [1, 2, 3, 4, 0] rfl h
  · replace h := h.2 (Int.not_le.mp c3)
    refine g_lload_n hX dX8_judge_34 3 rfl ?_
    refine g_iconst hX dX8_judge_35 ?_
    refine g_iload hX dX8_judge_36 5 rfl ?_
    refine g_imul hX dX8_judge_38 ?_
    refine g_lshr hX dX8_judge_39 ?_
    refine g_ldc2 (v := 15) hX ldc_X8_147 dX8_judge_40 ?_
    refine g_land hX dX8_judge_43 ?_
    refine g_l2i hX dX8_judge_44 ?_
    refine g_istore (loc' := [(7, vi (gl2i ((glshr y3 (4 * x6)) &&& 15))), (0, gR G 400), (1, vi x1), (2, vi x2), (3, .long y3), (5, vi x5), (6, vi x6)]) hX dX8_judge_45 (by decide) rfl ?_
    refine g_iload hX dX8_judge_47 0 rfl ?_
    refine g_bipush hX dX8_judge_49 rfl ?_
    refine g_icge (tgt := 65) hX (rng_i _) (by unfold rng; omega) dX8_judge_51 (by decide) (fun c6 => ?_) (fun c6 => ?_)
    · replace h := h.1 c6
      refine g_iconst hX dX8_judge_65 ?_
      exact g_zret hX hE (Or.inl rfl) dX8_judge_66 ⟨h, hs⟩
    · replace h := h.2 (Int.not_le.mp c6)
      refine g_iload hX dX8_judge_54 5 rfl ?_
      refine g_iload hX dX8_judge_56 0 rfl ?_
      refine g_ishr hX dX8_judge_58 ?_
      refine g_iconst hX dX8_judge_59 ?_
      refine g_iand hX dX8_judge_60 ?_
      refine g_iconst hX dX8_judge_61 ?_
      refine g_icne (tgt := 67) hX (rng_i _) (by unfold rng; omega) dX8_judge_62 (by decide) (fun c7 => ?_) (fun c7 => ?_)
      · replace h := h.1 c7
        refine g_iload hX dX8_judge_67 5 rfl ?_
        refine g_iconst hX dX8_judge_69 ?_
        refine g_iload hX dX8_judge_70 0 rfl ?_
        refine g_ishl hX dX8_judge_72 ?_
        refine g_ior hX dX8_judge_73 ?_
        refine g_istore (loc' := [(5, vi (gor x5 (gshl 1 (gl2i ((glshr y3 (4 * x6)) &&& 15))))), (7, vi (gl2i ((glshr y3 (4 * x6)) &&& 15))), (0, gR G 400), (1, vi x1), (2, vi x2), (3, .long y3), (6, vi x6)]) hX dX8_judge_74 (by decide) rfl ?_
        refine g_iinc (loc' := [(6, vi (x6 + 1)), (5, vi (gor x5 (gshl 1 (gl2i ((glshr y3 (4 * x6)) &&& 15))))), (7, vi (gl2i ((glshr y3 (4 * x6)) &&& 15))), (0, gR G 400), (1, vi x1), (2, vi x2), (3, .long y3)]) hX dX8_judge_76 6 rfl (by decide) rfl ?_
        refine g_goto (tgt := 28) hX dX8_judge_79 (by decide) ?_
        exact g_sub [3, 4, 5, 6, 1, 0] rfl h
      · replace h := h.2 (gnn c7)
        refine g_iconst hX dX8_judge_65 ?_
        exact g_zret hX hE (Or.inl rfl) dX8_judge_66 ⟨h, hs⟩
set_option maxRecDepth 100000 in
set_option maxHeartbeats 4000000 in
theorem bk_X8_judge_100 {X : gX} {G : gG} (hX : gOk X G cX8_judge 8 RX8 (some .boolean) 2) {Q : Int → gS → Prop} (hE : gEnd X G (gPi (fun v s' => Q v s' ∧ gRg s'))) (s : gS) (hs : gRg s) (x1 : Int) (x2 : Int) (y3 : Int64) (x6 : Int)  (h : (rng x6) ∧ (rng x2) ∧ ((x2 ≤ x6 → Q 1 s) ∧ (x6 < x2 → (0 ≤ ((10 * x1) + (gl2i ((glshr y3 (4 * x6)) &&& 15))) ∧ ((10 * x1) + (gl2i ((glshr y3 (4 * x6)) &&& 15))) < 90) ∧ (rng (x6 + 1)) ∧ gWL X G (gpA s 420 ((10 * x1) + (gl2i ((glshr y3 (4 * x6)) &&& 15))) (x6 + 1)) 100 [(0, gR G 400), (1, vi x1), (2, vi x2), (3, .long y3), (6, vi (x6 + 1))] []))) : gWL X G s 100 [(0, gR G 400), (1, vi x1), (2, vi x2), (3, .long y3), (6, vi x6)] [] := by
  refine g_iload hX dX8_judge_100 4 rfl ?_
  refine g_iload_n hX dX8_judge_102 2 rfl ?_
  obtain ⟨h1, h⟩ := h
  obtain ⟨h2, h⟩ := h
  refine g_icge (tgt := 137) hX h1 h2 dX8_judge_103 (by decide) (fun c3 => ?_) (fun c3 => ?_)
  · replace h := h.1 c3
    refine g_iconst hX dX8_judge_137 ?_
    exact g_zret hX hE (Or.inr rfl) dX8_judge_138 ⟨h, hs⟩
  · replace h := h.2 (Int.not_le.mp c3)
    refine g_aload_n hX dX8_judge_106 0 rfl ?_
    refine g_getR hX sh_400 19 rfl fl_X8_66 dX8_judge_107 ?_
    refine g_bipush hX dX8_judge_110 rfl ?_
    refine g_iload_n hX dX8_judge_112 1 rfl ?_
    refine g_imul hX dX8_judge_113 ?_
    refine g_lload_n hX dX8_judge_114 3 rfl ?_
    refine g_iconst hX dX8_judge_115 ?_
    refine g_iload hX dX8_judge_116 4 rfl ?_
    refine g_imul hX dX8_judge_118 ?_
    refine g_lshr hX dX8_judge_119 ?_
    refine g_ldc2 (v := 15) hX ldc_X8_147 dX8_judge_120 ?_
    refine g_land hX dX8_judge_123 ?_
    refine g_l2i hX dX8_judge_124 ?_
    refine g_iadd hX dX8_judge_125 ?_
    refine g_iload hX dX8_judge_126 4 rfl ?_
    refine g_iconst hX dX8_judge_128 ?_
    refine g_iadd hX dX8_judge_129 ?_
    obtain ⟨h4, h⟩ := h
    obtain ⟨h5, h⟩ := h
    refine g_iast hX sh_420 h4 (by decide) dX8_judge_130 ?_
    refine g_iinc (loc' := [(6, vi (x6 + 1)), (0, gR G 400), (1, vi x1), (2, vi x2), (3, .long y3)]) hX dX8_judge_131 4 rfl (by decide) rfl ?_
    refine g_goto (tgt := 100) hX dX8_judge_134 (by decide) ?_
    exact g_sub [1, 2, 3, 4, 0] rfl h
set_option maxRecDepth 100000 in
set_option maxHeartbeats 4000000 in
theorem c_X8_judge (l : Launch) {G : gG} (hG : gInj G) (s : gS) (x1 : Int) (x2 : Int) (y3 : Int64) (p0 : gRg s) (p1 : rng x1) (p2 : rng x2) : gMet l G yX8_judge cX8_judge 8 (some .boolean) 2 [gR G 400, vi x1, vi x2, .long y3] s (gPi (fun v s' => (((0 ≤ x1 ∧ x1 ≤ 8) ∧ (0 ≤ x2 ∧ x2 ≤ 10) ∧ gvalid (mclub y3) x2 → v = 1 ∧ s' = granks (gpA (gpA s 418 x1 x2) 419 x1 (gbitsOf (mclub y3) x2)) 420 (fun i => 10 * x1 + mclub y3 i) x2) ∧ (¬ ((0 ≤ x1 ∧ x1 ≤ 8) ∧ (0 ≤ x2 ∧ x2 ≤ 10) ∧ gvalid (mclub y3) x2) → v = 0 ∧ s' = s)) ∧ gRg s')) := by
  refine gMet_of (plainFor_of_name (by decide)) hG (Nat.le_of_ble_eq_true rfl) (fun X hX hE => ?_)
  refine bk_X8_judge_0 hX hE s p0 x1 x2 y3  ?_
  have hf := mclub_bd y3
  have hm : ∀ i, mclub y3 i = (gl2i ((glshr y3 (4 * i)) &&& 15)) := fun _ => rfl
  refine ⟨p1, fun a1 => ⟨fun z => absurd z.1 a1, fun _ => ⟨rfl, rfl⟩⟩, fun a1 => ⟨p2, fun a2 => ?_, fun a2 => ⟨fun z => absurd z.2.1 a2, fun _ => ⟨rfl, rfl⟩⟩⟩⟩
  refine gloop (α := Int) (hi := x2) (fun i b => 0 ≤ i ∧ b = gbitsOf (mclub y3) i ∧ gvalid (mclub y3) i) (fun i b => gWL X G s 28 [(0, gR G 400), (1, vi x1), (2, vi x2), (3, .long y3), (5, vi b), (6, vi i)] []) ?_ ?_ 0 0 a2.1 ⟨by omega, rfl, fun i h0 h1 => by omega⟩
  · intro i b hi ⟨h0, hb, hv⟩ next
    refine bk_X8_judge_28 hX hE s p0 x1 x2 y3 b i ⟨rng_of (by omega) (by omega), p2, fun h => by omega, fun _ => ⟨fun h => ?_, fun h => ⟨fun h2 => next _ ⟨by omega, ?_, ?_⟩, fun h2 => ?_⟩⟩⟩
    · exact ⟨fun z => by have := (z.2.2 i h0 hi).1; rw [hm] at this; omega, fun _ => ⟨rfl, rfl⟩⟩
    · unfold gbitsOf; rw [giter_s _ _ h0, hb]; rfl
    · intro i' h0' h1'
      by_cases e : i' = i
      · subst e
        exact ⟨h, by rw [← hb]; exact h2⟩
      · exact hv i' h0' (by omega)
    · exact ⟨fun z => absurd (by rw [← hb]; exact h2) (z.2.2 i h0 hi).2, fun _ => ⟨rfl, rfl⟩⟩
  · intro b ⟨h0, hb, hv⟩
    refine bk_X8_judge_28 hX hE s p0 x1 x2 y3 b x2 ⟨p2, p2, fun _ => ⟨by omega, by rw [hb]; exact gbitsOf_rng _ _, ?_⟩, fun h => by omega⟩
    subst hb
    have hg0 : gRg (gpA (gpA s 418 x1 x2) 419 x1 (gbitsOf (mclub y3) x2)) := gRg_A (gRg_A p0 p2) (gbitsOf_rng _ _)
    refine gloop (α := gS) (hi := x2) (fun i t => 0 ≤ i ∧ t = granks (gpA (gpA s 418 x1 x2) 419 x1 (gbitsOf (mclub y3) x2)) 420 (fun i => 10 * x1 + mclub y3 i) i) (fun i t => gWL X G t 100 [(0, gR G 400), (1, vi x1), (2, vi x2), (3, .long y3), (6, vi i)] []) ?_ ?_ 0 _ a2.1 ⟨by omega, rfl⟩
    · intro i t hi ⟨h0', ht⟩ next
      have hg : gRg t := by rw [ht]; exact granks_rg hg0 h0' (by omega)
      have h1 := (hv i h0' hi).1
      have h2 := hf i
      rw [hm] at h1 h2
      exact bk_X8_judge_100 hX hE t hg x1 x2 y3 i ⟨rng_of (by omega) (by omega), p2, fun h => by omega, fun _ => ⟨by omega, rng_of (by omega) (by omega), next _ ⟨by omega, by unfold granks; rw [giter_s _ _ h0', ht]; rfl⟩⟩⟩
    · intro t ⟨h0', ht⟩
      have hg : gRg t := by rw [ht]; exact granks_rg hg0 h0' (by omega)
      exact bk_X8_judge_100 hX hE t hg x1 x2 y3 x2 ⟨p2, p2, fun _ => ⟨fun _ => ⟨rfl, ht⟩, fun z => absurd ⟨a1, a2, hv⟩ z⟩, fun h => by omega⟩
set_option maxRecDepth 100000 in
set_option maxHeartbeats 4000000 in
theorem bk_X8_hasJudge_0 {X : gX} {G : gG} (hX : gOk X G cX8_hasJudge 2 RX8 (some .boolean) 1) {Q : Int → gS → Prop} (hE : gEnd X G (gPi (fun v s' => Q v s' ∧ gRg s'))) (s : gS) (hs : gRg s) (x1 : Int)  (h : (0 ≤ x1 ∧ x1 < 9) ∧ (((s.2 418 x1) ≤ 0 → Q 0 s) ∧ (0 < (s.2 418 x1) → ((¬ (s.2 419 x1) = (s.1 400 16) → Q 0 s) ∧ ((s.2 419 x1) = (s.1 400 16) → Q 1 s))))) : gWL X G s 0 [(0, gR G 400), (1, vi x1)] [] := by
  refine g_aload_n hX dX8_hasJudge_0 0 rfl ?_
  refine g_getR hX sh_400 17 rfl fl_X8_60 dX8_hasJudge_1 ?_
  refine g_iload_n hX dX8_hasJudge_4 1 rfl ?_
  obtain ⟨h1, h⟩ := h
  refine g_iald hX sh_418 h1 (by decide) dX8_hasJudge_5 ?_
  refine g_ifle (tgt := 26) hX (hs.2 _ _) dX8_hasJudge_6 (by decide) (fun c2 => ?_) (fun c2 => ?_)
  · replace h := h.1 c2
    refine g_iconst hX dX8_hasJudge_26 ?_
    exact g_zret hX hE (Or.inl rfl) dX8_hasJudge_27 ⟨h, hs⟩
  · replace h := h.2 (Int.not_le.mp c2)
    refine g_aload_n hX dX8_hasJudge_9 0 rfl ?_
    refine g_getR hX sh_400 18 rfl fl_X8_63 dX8_hasJudge_10 ?_
    refine g_iload_n hX dX8_hasJudge_13 1 rfl ?_
    refine g_iald hX sh_419 h1 (by decide) dX8_hasJudge_14 ?_
    refine g_aload_n hX dX8_hasJudge_15 0 rfl ?_
    refine g_getI hX sh_400 16 rfl fl_X8_141 dX8_hasJudge_16 ?_
    refine g_icne (tgt := 26) hX (hs.2 _ _) (hs.1 _ _) dX8_hasJudge_19 (by decide) (fun c3 => ?_) (fun c3 => ?_)
    · replace h := h.1 c3
      refine g_iconst hX dX8_hasJudge_26 ?_
      exact g_zret hX hE (Or.inl rfl) dX8_hasJudge_27 ⟨h, hs⟩
    · replace h := h.2 (gnn c3)
      refine g_iconst hX dX8_hasJudge_22 ?_
      refine g_goto (tgt := 27) hX dX8_hasJudge_23 (by decide) ?_
      exact g_zret hX hE (Or.inr rfl) dX8_hasJudge_27 ⟨h, hs⟩
set_option maxRecDepth 100000 in
set_option maxHeartbeats 4000000 in
theorem c_X8_hasJudge (l : Launch) {G : gG} (hG : gInj G) (s : gS) (x1 : Int) (p0 : gRg s) (p1 : 0 ≤ x1 ∧ x1 < 9) : gMet l G yX8_hasJudge cX8_hasJudge 2 (some .boolean) 1 [gR G 400, vi x1] s (gPi (fun v s' => (v = (gb (0 < (s.2 418 x1) ∧ (s.2 419 x1) = (s.1 400 16))) ∧ s' = s) ∧ gRg s')) := by
  refine gMet_of (plainFor_of_name (by decide)) hG (Nat.le_of_ble_eq_true rfl) (fun X hX hE => ?_)
  refine bk_X8_hasJudge_0 hX hE s p0 x1  ?_
  exact ⟨p1, fun h => ⟨(gb_f (fun z => by omega)).symm, rfl⟩, fun h => ⟨fun h2 => ⟨(gb_f (fun z => h2 z.2)).symm, rfl⟩, fun h2 => ⟨(gb_t ⟨h, h2⟩).symm, rfl⟩⟩⟩
set_option maxRecDepth 100000 in
set_option maxHeartbeats 4000000 in
theorem bk_X8_judges_0 {X : gX} {G : gG} (hX : gOk X G cX8_judges 3 RX8 (some .int) 2) {Q : Int → gS → Prop} (hE : gEnd X G (gPi (fun v s' => Q v s' ∧ gRg s'))) (s : gS) (hs : gRg s)   (h : gWL X G s 4 [(0, gR G 400), (1, vi 0), (2, vi 0)] []) : gWL X G s 0 [(0, gR G 400)] [] := by
  refine g_iconst hX dX8_judges_0 ?_
  refine g_istore_n (loc' := [(1, vi 0), (0, gR G 400)]) hX dX8_judges_1 (by decide) rfl ?_
  refine g_iconst hX dX8_judges_2 ?_
  refine g_istore_n (loc' := [(2, vi 0), (1, vi 0), (0, gR G 400)]) hX dX8_judges_3 (by decide) rfl ?_
  exact g_sub [2, 1, 0] rfl h
set_option maxRecDepth 100000 in
set_option maxHeartbeats 4000000 in
theorem bk_X8_judges_4 {X : gX} {G : gG} (hX : gOk X G cX8_judges 3 RX8 (some .int) 2) {Q : Int → gS → Prop} (hE : gEnd X G (gPi (fun v s' => Q v s' ∧ gRg s'))) (s : gS) (hs : gRg s) (x1 : Int) (x2 : Int)  (h : (rng x2) ∧ ((9 ≤ x2 → Q x1 s) ∧ (x2 < 9 → (0 ≤ x2 ∧ x2 < 9) ∧ ((¬ (0 < (s.2 418 x2) ∧ (s.2 419 x2) = (s.1 400 16)) → gWL X G s 4 [(0, gR G 400), (1, vi x1), (2, vi (x2 + 1))] []) ∧ (0 < (s.2 418 x2) ∧ (s.2 419 x2) = (s.1 400 16) → gWL X G s 4 [(0, gR G 400), (1, vi (x1 + 1)), (2, vi (x2 + 1))] []))))) : gWL X G s 4 [(0, gR G 400), (1, vi x1), (2, vi x2)] [] := by
  refine g_iload_n hX dX8_judges_4 2 rfl ?_
  refine g_bipush hX dX8_judges_5 rfl ?_
  obtain ⟨h1, h⟩ := h
  refine g_icge (tgt := 27) hX h1 (by unfold rng; omega) dX8_judges_7 (by decide) (fun c2 => ?_) (fun c2 => ?_)
  · replace h := h.1 c2
    refine g_iload_n hX dX8_judges_27 1 rfl ?_
    exact g_iret hX hE dX8_judges_28 ⟨h, hs⟩
  · replace h := h.2 (Int.not_le.mp c2)
    refine g_aload_n hX dX8_judges_10 0 rfl ?_
    refine g_iload_n hX dX8_judges_11 2 rfl ?_
    obtain ⟨h3, h⟩ := h
    refine g_cVf (As := [vi x2]) hX (fun l => c_X8_hasJudge l hX.inj s x2 hs h3) sh_400 cv_X8_149 (by decide) rfl (Nat.le_of_ble_eq_true rfl) dX8_judges_12 rfl (fun g4 => ?_)
    refine g_ifeq (tgt := 21) hX (gb_rng _) dX8_judges_15 (by decide) (fun c5 => ?_) (fun c5 => ?_)
    · replace h := h.1 (gb_eq0.mp c5)
      refine g_iinc (loc' := [(2, vi (x2 + 1)), (0, gR G 400), (1, vi x1)]) hX dX8_judges_21 2 rfl (by decide) rfl ?_
      refine g_goto (tgt := 4) hX dX8_judges_24 (by decide) ?_
      exact g_sub [1, 2, 0] rfl h
    · replace h := h.2 (gb_n0.mp c5)
      refine g_iinc (loc' := [(1, vi (x1 + 1)), (0, gR G 400), (2, vi x2)]) hX dX8_judges_18 1 rfl (by decide) rfl ?_
      refine g_iinc (loc' := [(2, vi (x2 + 1)), (1, vi (x1 + 1)), (0, gR G 400)]) hX dX8_judges_21 2 rfl (by decide) rfl ?_
      refine g_goto (tgt := 4) hX dX8_judges_24 (by decide) ?_
      exact g_sub [2, 1, 0] rfl h
set_option maxRecDepth 100000 in
set_option maxHeartbeats 4000000 in
theorem c_X8_judges (l : Launch) {G : gG} (hG : gInj G) (s : gS)  (p0 : gRg s) : gMet l G yX8_judges cX8_judges 3 (some .int) 2 [gR G 400] s (gPi (fun v s' => (v = (gJ (mhj s)) ∧ s' = s) ∧ gRg s')) := by
  refine gMet_of (plainFor_of_name (by decide)) hG (Nat.le_of_ble_eq_true rfl) (fun X hX hE => ?_)
  refine bk_X8_judges_0 hX hE s p0   ?_
  refine gloop (α := Int) (hi := 9) (fun i n => 0 ≤ i ∧ n = gsum (fun j => if mhj s j = true then 1 else 0) i) (fun i n => gWL X G s 4 [(0, gR G 400), (1, vi n), (2, vi i)] []) ?_ ?_ 0 0 (by omega) ⟨by omega, rfl⟩
  · intro i n hi ⟨h0, hn⟩ next
    refine bk_X8_judges_4 hX hE s p0 n i ⟨rng_of (by omega) (by omega), fun h => by omega, fun _ => ⟨by omega, fun h => next _ ⟨by omega, ?_⟩, fun h => next _ ⟨by omega, ?_⟩⟩⟩
    · rw [gsum_s _ h0, hn, if_neg (by unfold mhj; rw [decide_eq_true_iff]; exact h)]; omega
    · rw [gsum_s _ h0, hn, if_pos (by unfold mhj; rw [decide_eq_true_iff]; exact h)]
  · intro n ⟨h0, hn⟩
    exact bk_X8_judges_4 hX hE s p0 n 9 ⟨rng_of (by omega) (by omega), fun _ => ⟨hn, rfl⟩, fun h => by omega⟩
set_option maxRecDepth 100000 in
set_option maxHeartbeats 4000000 in
theorem bk_X8_sings_0 {X : gX} {G : gG} (hX : gOk X G cX8_sings 2 RX8 (some .boolean) 2) {Q : Int → gS → Prop} (hE : gEnd X G (gPi (fun v s' => Q v s' ∧ gRg s'))) (s : gS) (hs : gRg s) (x1 : Int)  (h : (rng x1) ∧ ((¬ (0 ≤ x1 ∧ x1 ≤ 9) → Q 0 s) ∧ (0 ≤ x1 ∧ x1 ≤ 9 → ((¬ (gand (gshr (s.1 400 16) x1) 1) = 1 → Q 0 s) ∧ ((gand (gshr (s.1 400 16) x1) 1) = 1 → Q 1 s))))) : gWL X G s 0 [(0, gR G 400), (1, vi x1)] [] := by
  refine g_iload_n hX dX8_sings_0 1 rfl ?_
  refine g_iconst hX dX8_sings_1 ?_
  refine g_bipush hX dX8_sings_2 rfl ?_
  obtain ⟨h1, h⟩ := h
  refine g_cSf (As := [vi x1, vi 0, vi 9]) hX (fun l => c_X8_isIn l hX.inj s x1 0 9 hs h1 (by unfold rng; omega) (by unfold rng; omega)) cv_X8_102 (by decide) rfl (Nat.le_of_ble_eq_true rfl) dX8_sings_4 rfl (fun g2 => ?_)
  refine g_ifeq (tgt := 26) hX (gb_rng _) dX8_sings_7 (by decide) (fun c3 => ?_) (fun c3 => ?_)
  · replace h := h.1 (gb_eq0.mp c3)
    refine g_iconst hX dX8_sings_26 ?_
    exact g_zret hX hE (Or.inl rfl) dX8_sings_27 ⟨h, hs⟩
  · replace h := h.2 (gb_n0.mp c3)
    refine g_aload_n hX dX8_sings_10 0 rfl ?_
    refine g_getI hX sh_400 16 rfl fl_X8_141 dX8_sings_11 ?_
    refine g_iload_n hX dX8_sings_14 1 rfl ?_
    refine g_ishr hX dX8_sings_15 ?_
    refine g_iconst hX dX8_sings_16 ?_
    refine g_iand hX dX8_sings_17 ?_
    refine g_iconst hX dX8_sings_18 ?_
    refine g_icne (tgt := 26) hX (rng_i _) (by unfold rng; omega) dX8_sings_19 (by decide) (fun c4 => ?_) (fun c4 => ?_)
    · replace h := h.1 c4
      refine g_iconst hX dX8_sings_26 ?_
      exact g_zret hX hE (Or.inl rfl) dX8_sings_27 ⟨h, hs⟩
    · replace h := h.2 (gnn c4)
      refine g_iconst hX dX8_sings_22 ?_
      refine g_goto (tgt := 27) hX dX8_sings_23 (by decide) ?_
      exact g_zret hX hE (Or.inr rfl) dX8_sings_27 ⟨h, hs⟩
set_option maxRecDepth 100000 in
set_option maxHeartbeats 4000000 in
theorem c_X8_sings (l : Launch) {G : gG} (hG : gInj G) (s : gS) (x1 : Int) (p0 : gRg s) (p1 : rng x1) : gMet l G yX8_sings cX8_sings 2 (some .boolean) 2 [gR G 400, vi x1] s (gPi (fun v s' => (v = (gb ((0 ≤ x1 ∧ x1 ≤ 9) ∧ gbit (s.1 400 16) x1 = 1)) ∧ s' = s) ∧ gRg s')) := by
  refine gMet_of (plainFor_of_name (by decide)) hG (Nat.le_of_ble_eq_true rfl) (fun X hX hE => ?_)
  refine bk_X8_sings_0 hX hE s p0 x1  ?_
  exact ⟨p1, fun h => ⟨(gb_f (fun z => h z.1)).symm, rfl⟩, fun h => ⟨fun h2 => ⟨(gb_f (fun z => h2 z.2)).symm, rfl⟩, fun h2 => ⟨(gb_t ⟨h, h2⟩).symm, rfl⟩⟩⟩
set_option maxRecDepth 100000 in
set_option maxHeartbeats 4000000 in
theorem bk_X8_ranked_0 {X : gX} {G : gG} (hX : gOk X G cX8_ranked 6 RX8 (some .int) 2) {Q : Int → gS → Prop} (hE : gEnd X G (gPi (fun v s' => Q v s' ∧ gRg s'))) (s : gS) (hs : gRg s) (x1 : Int) (x2 : Int) (x3 : Int)  (h : gWL X G s 6 [(0, gR G 400), (1, vi x1), (2, vi x2), (3, vi x3), (4, vi 0), (5, vi 0)] []) : gWL X G s 0 [(0, gR G 400), (1, vi x1), (2, vi x2), (3, vi x3)] [] := by
  refine g_iconst hX dX8_ranked_0 ?_
  refine g_istore (loc' := [(4, vi 0), (0, gR G 400), (1, vi x1), (2, vi x2), (3, vi x3)]) hX dX8_ranked_1 (by decide) rfl ?_
  refine g_iconst hX dX8_ranked_3 ?_
  refine g_istore (loc' := [(5, vi 0), (4, vi 0), (0, gR G 400), (1, vi x1), (2, vi x2), (3, vi x3)]) hX dX8_ranked_4 (by decide) rfl ?_
  exact g_sub [2, 3, 4, 5, 1, 0] rfl h
set_option maxRecDepth 100000 in
set_option maxHeartbeats 4000000 in
theorem bk_X8_ranked_6 {X : gX} {G : gG} (hX : gOk X G cX8_ranked 6 RX8 (some .int) 2) {Q : Int → gS → Prop} (hE : gEnd X G (gPi (fun v s' => Q v s' ∧ gRg s'))) (s : gS) (hs : gRg s) (x1 : Int) (x2 : Int) (x3 : Int) (x4 : Int) (x5 : Int)  (h : (rng x5) ∧ ((9 ≤ x5 → Q x4 s) ∧ (x5 < 9 → (0 ≤ x5 ∧ x5 < 9) ∧ ((¬ (0 < (s.2 418 x5) ∧ (s.2 419 x5) = (s.1 400 16)) → gWL X G s 6 [(0, gR G 400), (1, vi x1), (2, vi x2), (3, vi x3), (4, vi x4), (5, vi (x5 + 1))] []) ∧ (0 < (s.2 418 x5) ∧ (s.2 419 x5) = (s.1 400 16) → (0 ≤ ((10 * x5) + x1) ∧ ((10 * x5) + x1) < 90) ∧ (rng x2) ∧ ((x2 < (s.2 420 ((10 * x5) + x1)) → gWL X G s 6 [(0, gR G 400), (1, vi x1), (2, vi x2), (3, vi x3), (4, vi x4), (5, vi (x5 + 1))] []) ∧ ((s.2 420 ((10 * x5) + x1)) ≤ x2 → (rng x3) ∧ ((x3 = 0 → gWL X G s 6 [(0, gR G 400), (1, vi x1), (2, vi x2), (3, vi x3), (4, vi (x4 + 1)), (5, vi (x5 + 1))] []) ∧ (¬ (x3 = 0) → gWL X G s 6 [(0, gR G 400), (1, vi x1), (2, vi x2), (3, vi x3), (4, vi (x4 + (s.2 420 ((10 * x5) + x1)))), (5, vi (x5 + 1))] []))))))))) : gWL X G s 6 [(0, gR G 400), (1, vi x1), (2, vi x2), (3, vi x3), (4, vi x4), (5, vi x5)] [] := by
  refine g_iload hX dX8_ranked_6 5 rfl ?_
  refine g_bipush hX dX8_ranked_8 rfl ?_
  obtain ⟨h1, h⟩ := h
  refine g_icge (tgt := 69) hX h1 (by unfold rng; omega) dX8_ranked_10 (by decide) (fun c2 => ?_) (fun c2 => ?_)
  · replace h := h.1 c2
    refine g_iload hX dX8_ranked_69 4 rfl ?_
    exact g_iret hX hE dX8_ranked_71 ⟨h, hs⟩
  · replace h := h.2 (Int.not_le.mp c2)
    refine g_aload_n hX dX8_ranked_13 0 rfl ?_
    refine g_iload hX dX8_ranked_14 5 rfl ?_
    obtain ⟨h3, h⟩ := h
    refine g_cVf (As := [vi x5]) hX (fun l => c_X8_hasJudge l hX.inj s x5 hs h3) sh_400 cv_X8_149 (by decide) rfl (Nat.le_of_ble_eq_true rfl) dX8_ranked_16 rfl (fun g4 => ?_)
    refine g_ifeq (tgt := 63) hX (gb_rng _) dX8_ranked_19 (by decide) (fun c5 => ?_) (fun c5 => ?_)
    · replace h := h.1 (gb_eq0.mp c5)
      refine g_iinc (loc' := [(5, vi (x5 + 1)), (0, gR G 400), (1, vi x1), (2, vi x2), (3, vi x3), (4, vi x4)]) hX dX8_ranked_63 5 rfl (by decide) rfl ?_
      refine g_goto (tgt := 6) hX dX8_ranked_66 (by decide) ?_
      exact g_sub [1, 2, 3, 4, 5, 0] rfl h
    · replace h := h.2 (gb_n0.mp c5)
      refine g_aload_n hX dX8_ranked_22 0 rfl ?_
      refine g_getR hX sh_400 19 rfl fl_X8_66 dX8_ranked_23 ?_
      refine g_bipush hX dX8_ranked_26 rfl ?_
      refine g_iload hX dX8_ranked_28 5 rfl ?_
      refine g_imul hX dX8_ranked_30 ?_
      refine g_iload_n hX dX8_ranked_31 1 rfl ?_
      refine g_iadd hX dX8_ranked_32 ?_
      obtain ⟨h6, h⟩ := h
      refine g_iald hX sh_420 h6 (by decide) dX8_ranked_33 ?_
      refine g_iload_n hX dX8_ranked_34 2 rfl ?_
      obtain ⟨h7, h⟩ := h
      refine g_icgt (tgt := 63) hX (hs.2 _ _) h7 dX8_ranked_35 (by decide) (fun c8 => ?_) (fun c8 => ?_)
      · replace h := h.1 c8
        refine g_iinc (loc' := [(5, vi (x5 + 1)), (0, gR G 400), (1, vi x1), (2, vi x2), (3, vi x3), (4, vi x4)]) hX dX8_ranked_63 5 rfl (by decide) rfl ?_
        refine g_goto (tgt := 6) hX dX8_ranked_66 (by decide) ?_
        exact g_sub [1, 2, 3, 4, 5, 0] rfl h
      · replace h := h.2 (Int.not_lt.mp c8)
        refine g_iload hX dX8_ranked_38 4 rfl ?_
        refine g_iload_n hX dX8_ranked_40 3 rfl ?_
        obtain ⟨h9, h⟩ := h
        refine g_ifeq (tgt := 59) hX h9 dX8_ranked_41 (by decide) (fun c10 => ?_) (fun c10 => ?_)
        · replace h := h.1 c10
          refine g_iconst hX dX8_ranked_59 ?_
          refine g_iadd hX dX8_ranked_60 ?_
          refine g_istore (loc' := [(4, vi (x4 + 1)), (0, gR G 400), (1, vi x1), (2, vi x2), (3, vi x3), (5, vi x5)]) hX dX8_ranked_61 (by decide) rfl ?_
          refine g_iinc (loc' := [(5, vi (x5 + 1)), (4, vi (x4 + 1)), (0, gR G 400), (1, vi x1), (2, vi x2), (3, vi x3)]) hX dX8_ranked_63 5 rfl (by decide) rfl ?_
          refine g_goto (tgt := 6) hX dX8_ranked_66 (by decide) ?_
          exact g_sub [2, 3, 4, 5, 1, 0] rfl h
        · replace h := h.2 c10
          refine g_aload_n hX dX8_ranked_44 0 rfl ?_
          refine g_getR hX sh_400 19 rfl fl_X8_66 dX8_ranked_45 ?_
          refine g_bipush hX dX8_ranked_48 rfl ?_
          refine g_iload hX dX8_ranked_50 5 rfl ?_
          refine g_imul hX dX8_ranked_52 ?_
          refine g_iload_n hX dX8_ranked_53 1 rfl ?_
          refine g_iadd hX dX8_ranked_54 ?_
          refine g_iald hX sh_420 h6 (by decide) dX8_ranked_55 ?_
          refine g_goto (tgt := 60) hX dX8_ranked_56 (by decide) ?_
          refine g_iadd hX dX8_ranked_60 ?_
          refine g_istore (loc' := [(4, vi (x4 + (s.2 420 ((10 * x5) + x1)))), (0, gR G 400), (1, vi x1), (2, vi x2), (3, vi x3), (5, vi x5)]) hX dX8_ranked_61 (by decide) rfl ?_
          refine g_iinc (loc' := [(5, vi (x5 + 1)), (4, vi (x4 + (s.2 420 ((10 * x5) + x1)))), (0, gR G 400), (1, vi x1), (2, vi x2), (3, vi x3)]) hX dX8_ranked_63 5 rfl (by decide) rfl ?_
          refine g_goto (tgt := 6) hX dX8_ranked_66 (by decide) ?_
          exact g_sub [2, 3, 4, 5, 1, 0] rfl h
set_option maxRecDepth 100000 in
set_option maxHeartbeats 4000000 in
theorem c_X8_ranked (l : Launch) {G : gG} (hG : gInj G) (s : gS) (x1 : Int) (x2 : Int) (x3 : Int) (p0 : gRg s) (p1 : rng x2) (p2 : rng x3) (p3 : 0 ≤ x1 ∧ x1 < 10) : gMet l G yX8_ranked cX8_ranked 6 (some .int) 2 [gR G 400, vi x1, vi x2, vi x3] s (gPi (fun v s' => (v = (mranked s x1 x2 x3) ∧ s' = s) ∧ gRg s')) := by
  refine gMet_of (plainFor_of_name (by decide)) hG (Nat.le_of_ble_eq_true rfl) (fun X hX hE => ?_)
  refine bk_X8_ranked_0 hX hE s p0 x1 x2 x3  ?_
  by_cases hz : x3 = 0
  · have hq : mranked s x1 x2 x3 = gC (mhj s) (mrk s) x1 x2 := if_pos hz
    refine gloop (α := Int) (hi := 9) (fun i n => 0 ≤ i ∧ n = gsum (fun j => if mhj s j = true ∧ mrk s j x1 ≤ x2 then 1 else 0) i) (fun i n => gWL X G s 6 [(0, gR G 400), (1, vi x1), (2, vi x2), (3, vi x3), (4, vi n), (5, vi i)] []) ?_ ?_ 0 0 (by omega) ⟨by omega, rfl⟩
    · intro i n hi ⟨h0, hn⟩ next
      have hc : mhj s i = true ↔ (0 < (s.2 418 i) ∧ (s.2 419 i) = (s.1 400 16)) := by unfold mhj; rw [decide_eq_true_iff]
      refine bk_X8_ranked_6 hX hE s p0 x1 x2 x3 n i ⟨rng_of (by omega) (by omega), fun h => by omega, fun _ => ⟨by omega, fun h => next _ ⟨by omega, ?_⟩, fun h => ⟨by omega, p1, fun h2 => next _ ⟨by omega, ?_⟩, fun h2 => ⟨p2, fun h3 => next _ ⟨by omega, ?_⟩, fun h3 => absurd hz h3⟩⟩⟩⟩
      · rw [gsum_s _ h0, hn, if_neg (fun z => h (hc.mp z.1))]; omega
      · rw [gsum_s _ h0, hn, if_neg (fun z => by have := z.2; unfold mrk at this; omega)]; omega
      · rw [gsum_s _ h0, hn, if_pos ⟨hc.mpr h, h2⟩]
    · intro n ⟨h0, hn⟩
      exact bk_X8_ranked_6 hX hE s p0 x1 x2 x3 n 9 ⟨rng_of (by omega) (by omega), fun _ => ⟨hn.trans hq.symm, rfl⟩, fun h => by omega⟩
  · have hq : mranked s x1 x2 x3 = gT (mhj s) (mrk s) x1 x2 := if_neg hz
    refine gloop (α := Int) (hi := 9) (fun i n => 0 ≤ i ∧ n = gsum (fun j => if mhj s j = true ∧ mrk s j x1 ≤ x2 then mrk s j x1 else 0) i) (fun i n => gWL X G s 6 [(0, gR G 400), (1, vi x1), (2, vi x2), (3, vi x3), (4, vi n), (5, vi i)] []) ?_ ?_ 0 0 (by omega) ⟨by omega, rfl⟩
    · intro i n hi ⟨h0, hn⟩ next
      have hc : mhj s i = true ↔ (0 < (s.2 418 i) ∧ (s.2 419 i) = (s.1 400 16)) := by unfold mhj; rw [decide_eq_true_iff]
      refine bk_X8_ranked_6 hX hE s p0 x1 x2 x3 n i ⟨rng_of (by omega) (by omega), fun h => by omega, fun _ => ⟨by omega, fun h => next _ ⟨by omega, ?_⟩, fun h => ⟨by omega, p1, fun h2 => next _ ⟨by omega, ?_⟩, fun h2 => ⟨p2, fun h3 => absurd h3 hz, fun h3 => next _ ⟨by omega, ?_⟩⟩⟩⟩⟩
      · rw [gsum_s _ h0, hn, if_neg (fun z => h (hc.mp z.1))]; omega
      · rw [gsum_s _ h0, hn, if_neg (fun z => by have := z.2; unfold mrk at this; omega)]; omega
      · rw [gsum_s _ h0, hn, if_pos ⟨hc.mpr h, h2⟩]; rfl
    · intro n ⟨h0, hn⟩
      exact bk_X8_ranked_6 hX hE s p0 x1 x2 x3 n 9 ⟨rng_of (by omega) (by omega), fun _ => ⟨hn.trans hq.symm, rfl⟩, fun h => by omega⟩
theorem mranked_0 (s : gS) (c k : Int) : mranked s c k 0 = gC (mhj s) (mrk s) c k := rfl
theorem mranked_1 (s : gS) (c k : Int) : mranked s c k 1 = gT (mhj s) (mrk s) c k := rfl
set_option maxRecDepth 100000 in
set_option maxHeartbeats 4000000 in
theorem bk_X8_against_0 {X : gX} {G : gG} (hX : gOk X G cX8_against 7 RX8 (some .int) 3) {Q : Int → gS → Prop} (hE : gEnd X G (gPi (fun v s' => Q v s' ∧ gRg s'))) (s : gS) (hs : gRg s) (x1 : Int) (x2 : Int) (x3 : Int)  (h : gWL X G s 12 [(0, gR G 400), (1, vi x1), (2, vi x2), (4, vi (gones (s.1 400 16))), (5, vi x3)] []) : gWL X G s 0 [(0, gR G 400), (1, vi x1), (2, vi x2), (3, vi x3)] [] := by
  refine g_aload_n hX dX8_against_0 0 rfl ?_
  refine g_getI hX sh_400 16 rfl fl_X8_141 dX8_against_1 ?_
  refine g_cSf (As := [vi (s.1 400 16)]) hX (fun l => c_X8_ones l hX.inj s (s.1 400 16) hs) cv_X8_144 (by decide) rfl (Nat.le_of_ble_eq_true rfl) dX8_against_4 rfl (fun g1 => ?_)
  refine g_istore (loc' := [(4, vi (gones (s.1 400 16))), (0, gR G 400), (1, vi x1), (2, vi x2), (3, vi x3)]) hX dX8_against_7 (by decide) rfl ?_
  refine g_iload_n hX dX8_against_9 4 rfl ?_
  refine g_istore (loc' := [(5, vi x3), (4, vi (gones (s.1 400 16))), (0, gR G 400), (1, vi x1), (2, vi x2), (3, vi x3)]) hX dX8_against_10 (by decide) rfl ?_
  exact g_sub [2, 3, 4, 1, 0] rfl h
set_option maxRecDepth 100000 in
set_option maxHeartbeats 4000000 in
theorem bk_X8_against_12 {X : gX} {G : gG} (hX : gOk X G cX8_against 7 RX8 (some .int) 3) {Q : Int → gS → Prop} (hE : gEnd X G (gPi (fun v s' => Q v s' ∧ gRg s'))) (s : gS) (hs : gRg s) (x1 : Int) (x2 : Int) (x4 : Int) (x5 : Int)  (h : (rng x5) ∧ (rng x4) ∧ ((x4 < x5 → Q 0 s) ∧ (x5 ≤ x4 → (0 ≤ x2 ∧ x2 < 10) ∧ (0 ≤ x1 ∧ x1 < 10) ∧ (rng ((mranked s x2 x5 0) - (mranked s x1 x5 0))) ∧ ((¬ ((mranked s x2 x5 0) - (mranked s x1 x5 0)) = 0 → ((((mranked s x2 x5 0) - (mranked s x1 x5 0)) = 0 → gWL X G s 12 [(0, gR G 400), (1, vi x1), (2, vi x2), (4, vi x4), (5, vi (x5 + 1))] []) ∧ (¬ (((mranked s x2 x5 0) - (mranked s x1 x5 0)) = 0) → Q ((mranked s x2 x5 0) - (mranked s x1 x5 0)) s))) ∧ (((mranked s x2 x5 0) - (mranked s x1 x5 0)) = 0 → (rng ((mranked s x1 x5 1) - (mranked s x2 x5 1))) ∧ ((((mranked s x1 x5 1) - (mranked s x2 x5 1)) = 0 → gWL X G s 12 [(0, gR G 400), (1, vi x1), (2, vi x2), (4, vi x4), (5, vi (x5 + 1))] []) ∧ (¬ (((mranked s x1 x5 1) - (mranked s x2 x5 1)) = 0) → Q ((mranked s x1 x5 1) - (mranked s x2 x5 1)) s))))))) : gWL X G s 12 [(0, gR G 400), (1, vi x1), (2, vi x2), (4, vi x4), (5, vi x5)] [] := by
  refine g_iload hX dX8_against_12 4 rfl ?_
  refine g_iload hX dX8_against_14 3 rfl ?_
  obtain ⟨h1, h⟩ := h
  obtain ⟨h2, h⟩ := h
  refine g_icgt (tgt := 76) hX h1 h2 dX8_against_16 (by decide) (fun c3 => ?_) (fun c3 => ?_)
  · replace h := h.1 c3
    refine g_iconst hX dX8_against_76 ?_
    exact g_iret hX hE dX8_against_77 ⟨h, hs⟩
  · replace h := h.2 (Int.not_lt.mp c3)
    refine g_aload_n hX dX8_against_19 0 rfl ?_
    refine g_iload_n hX dX8_against_20 2 rfl ?_
    refine g_iload hX dX8_against_21 4 rfl ?_
    refine g_iconst hX dX8_against_23 ?_
    obtain ⟨h4, h⟩ := h
    refine g_cVf (As := [vi x2, vi x5, vi 0]) hX (fun l => c_X8_ranked l hX.inj s x2 x5 0 hs h1 (by unfold rng; omega) h4) sh_400 cv_X8_152 (by decide) rfl (Nat.le_of_ble_eq_true rfl) dX8_against_24 rfl (fun g5 => ?_)
    refine g_aload_n hX dX8_against_27 0 rfl ?_
    refine g_iload_n hX dX8_against_28 1 rfl ?_
    refine g_iload hX dX8_against_29 4 rfl ?_
    refine g_iconst hX dX8_against_31 ?_
    obtain ⟨h6, h⟩ := h
    refine g_cVf (As := [vi x1, vi x5, vi 0]) hX (fun l => c_X8_ranked l hX.inj s x1 x5 0 hs h1 (by unfold rng; omega) h6) sh_400 cv_X8_152 (by decide) rfl (Nat.le_of_ble_eq_true rfl) dX8_against_32 rfl (fun g7 => ?_)
    refine g_isub hX dX8_against_35 ?_
    refine g_istore (loc' := [(6, vi ((mranked s x2 x5 0) - (mranked s x1 x5 0))), (0, gR G 400), (1, vi x1), (2, vi x2), (4, vi x4), (5, vi x5)]) hX dX8_against_36 (by decide) rfl ?_
    refine g_iload hX dX8_against_38 0 rfl ?_
    obtain ⟨h8, h⟩ := h
    refine g_ifne (tgt := 62) hX h8 dX8_against_40 (by decide) (fun c9 => ?_) (fun c9 => ?_)
    · replace h := h.1 c9
      refine g_iload hX dX8_against_62 0 rfl ?_
      refine g_ifeq (tgt := 70) hX h8 dX8_against_64 (by decide) (fun c10 => ?_) (fun c10 => ?_)
      · replace h := h.1 c10
        refine g_iinc (loc' := [(5, vi (x5 + 1)), (6, vi ((mranked s x2 x5 0) - (mranked s x1 x5 0))), (0, gR G 400), (1, vi x1), (2, vi x2), (4, vi x4)]) hX dX8_against_70 5 rfl (by decide) rfl ?_
        refine g_goto (tgt := 12) hX dX8_against_73 (by decide) ?_
        exact g_sub [2, 3, 4, 5, 0] rfl h
      · replace h := h.2 c10
        refine g_iload hX dX8_against_67 0 rfl ?_
        exact g_iret hX hE dX8_against_69 ⟨h, hs⟩
    · replace h := h.2 (gnn c9)
      refine g_aload_n hX dX8_against_43 1 rfl ?_
      refine g_iload_n hX dX8_against_44 2 rfl ?_
      refine g_iload hX dX8_against_45 5 rfl ?_
      refine g_iconst hX dX8_against_47 ?_
      refine g_cVf (As := [vi x1, vi x5, vi 1]) hX (fun l => c_X8_ranked l hX.inj s x1 x5 1 hs h1 (by unfold rng; omega) h6) sh_400 cv_X8_152 (by decide) rfl (Nat.le_of_ble_eq_true rfl) dX8_against_48 rfl (fun g11 => ?_)
      refine g_aload_n hX dX8_against_51 1 rfl ?_
      refine g_iload_n hX dX8_against_52 3 rfl ?_
      refine g_iload hX dX8_against_53 5 rfl ?_
      refine g_iconst hX dX8_against_55 ?_
      refine g_cVf (As := [vi x2, vi x5, vi 1]) hX (fun l => c_X8_ranked l hX.inj s x2 x5 1 hs h1 (by unfold rng; omega) h4) sh_400 cv_X8_152 (by decide) rfl (Nat.le_of_ble_eq_true rfl) dX8_against_56 rfl (fun g12 => ?_)
      refine g_isub hX dX8_against_59 ?_
      refine g_istore (loc' := [(6, vi ((mranked s x1 x5 1) - (mranked s x2 x5 1))), (0, gR G 400), (1, vi x1), (2, vi x2), (4, vi x4), (5, vi x5)]) hX dX8_against_60 (by decide) rfl ?_
      refine g_iload hX dX8_against_62 0 rfl ?_
      obtain ⟨h13, h⟩ := h
      refine g_ifeq (tgt := 70) hX h13 dX8_against_64 (by decide) (fun c14 => ?_) (fun c14 => ?_)
      · replace h := h.1 c14
        refine g_iinc (loc' := [(5, vi (x5 + 1)), (6, vi ((mranked s x1 x5 1) - (mranked s x2 x5 1))), (0, gR G 400), (1, vi x1), (2, vi x2), (4, vi x4)]) hX dX8_against_70 5 rfl (by decide) rfl ?_
        refine g_goto (tgt := 12) hX dX8_against_73 (by decide) ?_
        exact g_sub [2, 3, 4, 5, 0] rfl h
      · replace h := h.2 c14
        refine g_iload hX dX8_against_67 0 rfl ?_
        exact g_iret hX hE dX8_against_69 ⟨h, hs⟩
set_option maxRecDepth 100000 in
set_option maxHeartbeats 4000000 in
theorem c_X8_against (l : Launch) {G : gG} (hG : gInj G) (s : gS) (x1 : Int) (x2 : Int) (x3 : Int) (p0 : gRg s) (p1 : mRk s) (p2 : 0 ≤ x1 ∧ x1 < 10) (p3 : 0 ≤ x2 ∧ x2 < 10) (p4 : 1 ≤ x3 ∧ x3 ≤ 30) : gMet l G yX8_against cX8_against 7 (some .int) 3 [gR G 400, vi x1, vi x2, vi x3] s (gPi (fun v s' => (v = (mag s x1 x2 x3) ∧ s' = s) ∧ gRg s')) := by
  refine gMet_of (plainFor_of_name (by decide)) hG (Nat.le_of_ble_eq_true rfl) (fun X hX hE => ?_)
  refine bk_X8_against_0 hX hE s p0 x1 x2 x3  ?_
  have hn := gones_bd (s.1 400 16)
  have hn1 : rng (gones (s.1 400 16)) := rng_of (by omega) (by omega)
  by_cases hk : gones (s.1 400 16) < x3
  · refine bk_X8_against_12 hX hE s p0 x1 x2 _ x3 ⟨rng_of (by omega) (by omega), hn1, fun _ => ⟨?_, rfl⟩, fun h => by omega⟩
    unfold mag
    rw [show (gones (s.1 400 16) + 1 - x3).toNat = 0 by omega]
    rfl
  · refine gloop (α := Unit) (hi := gones (s.1 400 16) + 1) (fun i _ => 1 ≤ i ∧ gag (mhj s) (mrk s) x1 x2 i (gones (s.1 400 16) + 1 - i).toNat = mag s x1 x2 x3) (fun i _ => gWL X G s 12 [(0, gR G 400), (1, vi x1), (2, vi x2), (4, vi (gones (s.1 400 16))), (5, vi i)] []) ?_ ?_ x3 () (by omega) ⟨by omega, rfl⟩
    · intro i _ hi ⟨h0, he⟩ next
      have hC1 := gC_bd (mhj s) (mrk s) x1 i
      have hC2 := gC_bd (mhj s) (mrk s) x2 i
      have hT1 := mT_bd (s := s) (c := x1) (k := i) p1 p2.1 p2.2
      have hT2 := mT_bd (s := s) (c := x2) (k := i) p1 p3.1 p3.2
      rw [show (gones (s.1 400 16) + 1 - i).toNat = (gones (s.1 400 16) + 1 - (i + 1)).toNat + 1 by omega, gag_s] at he
      refine bk_X8_against_12 hX hE s p0 x1 x2 _ i ⟨rng_of (by omega) (by omega), hn1, fun h => by omega, fun _ => ⟨p3, p2, rng_of (by rw [mranked_0, mranked_0]; omega) (by rw [mranked_0, mranked_0]; omega), fun h => ⟨fun h2 => absurd h2 h, fun h2 => ⟨?_, rfl⟩⟩, fun h => ⟨rng_of (by rw [mranked_1, mranked_1]; omega) (by rw [mranked_1, mranked_1]; omega), fun h2 => next () ⟨by omega, ?_⟩, fun h2 => ⟨?_, rfl⟩⟩⟩⟩
      · rw [mranked_0, mranked_0] at h ⊢
        rw [if_neg h] at he; exact he
      · rw [mranked_0, mranked_0] at h
        rw [mranked_1, mranked_1] at h2
        rw [if_pos h, if_pos h2] at he; exact he
      · rw [mranked_0, mranked_0] at h
        rw [mranked_1, mranked_1] at h2 ⊢
        rw [if_pos h, if_neg h2] at he; exact he
    · intro _ ⟨h0, he⟩
      refine bk_X8_against_12 hX hE s p0 x1 x2 _ _ ⟨rng_of (by omega) (by omega), hn1, fun _ => ⟨?_, rfl⟩, fun h => by omega⟩
      rw [show (gones (s.1 400 16) + 1 - (gones (s.1 400 16) + 1)).toNat = 0 by omega] at he
      exact he
set_option maxRecDepth 100000 in
set_option maxHeartbeats 4000000 in
theorem bk_X8_ranks_0 {X : gX} {G : gG} (hX : gOk X G cX8_ranks 3 RX8 (some .int) 3) {Q : Int → gS → Prop} (hE : gEnd X G (gPi (fun v s' => Q v s' ∧ gRg s'))) (s : gS) (hs : gRg s) (x1 : Int) (x2 : Int)  (h : (rng x1) ∧ ((¬ ((0 ≤ x1 ∧ x1 ≤ 9) ∧ gbit (s.1 400 16) x1 = 1) → Q (-1) s) ∧ ((0 ≤ x1 ∧ x1 ≤ 9) ∧ gbit (s.1 400 16) x1 = 1 → (rng x2) ∧ ((x2 ≤ 0 → Q (-1) s) ∧ (0 < x2 → (0 ≤ x1 ∧ x1 < 10) ∧ Q (mranked s x1 x2 0) s))))) : gWL X G s 0 [(0, gR G 400), (1, vi x1), (2, vi x2)] [] := by
  refine g_aload_n hX dX8_ranks_0 0 rfl ?_
  refine g_iload_n hX dX8_ranks_1 1 rfl ?_
  obtain ⟨h1, h⟩ := h
  refine g_cVf (As := [vi x1]) hX (fun l => c_X8_sings l hX.inj s x1 hs h1) sh_400 cv_X8_160 (by decide) rfl (Nat.le_of_ble_eq_true rfl) dX8_ranks_2 rfl (fun g2 => ?_)
  refine g_ifeq (tgt := 22) hX (gb_rng _) dX8_ranks_5 (by decide) (fun c3 => ?_) (fun c3 => ?_)
  · replace h := h.1 (gb_eq0.mp c3)
    refine g_iconst hX dX8_ranks_22 ?_
    exact g_iret hX hE dX8_ranks_23 ⟨h, hs⟩
  · replace h := h.2 (gb_n0.mp c3)
    refine g_iload_n hX dX8_ranks_8 2 rfl ?_
    obtain ⟨h4, h⟩ := h
    refine g_ifle (tgt := 22) hX h4 dX8_ranks_9 (by decide) (fun c5 => ?_) (fun c5 => ?_)
    · replace h := h.1 c5
      refine g_iconst hX dX8_ranks_22 ?_
      exact g_iret hX hE dX8_ranks_23 ⟨h, hs⟩
    · replace h := h.2 (Int.not_le.mp c5)
      refine g_aload_n hX dX8_ranks_12 0 rfl ?_
      refine g_iload_n hX dX8_ranks_13 1 rfl ?_
      refine g_iload_n hX dX8_ranks_14 2 rfl ?_
      refine g_iconst hX dX8_ranks_15 ?_
      obtain ⟨h6, h⟩ := h
      refine g_cVf (As := [vi x1, vi x2, vi 0]) hX (fun l => c_X8_ranked l hX.inj s x1 x2 0 hs h4 (by unfold rng; omega) h6) sh_400 cv_X8_152 (by decide) rfl (Nat.le_of_ble_eq_true rfl) dX8_ranks_16 rfl (fun g7 => ?_)
      refine g_goto (tgt := 23) hX dX8_ranks_19 (by decide) ?_
      exact g_iret hX hE dX8_ranks_23 ⟨h, hs⟩
set_option maxRecDepth 100000 in
set_option maxHeartbeats 4000000 in
theorem c_X8_ranks (l : Launch) {G : gG} (hG : gInj G) (s : gS) (x1 : Int) (x2 : Int) (p0 : gRg s) (p1 : rng x1) (p2 : rng x2) : gMet l G yX8_ranks cX8_ranks 3 (some .int) 3 [gR G 400, vi x1, vi x2] s (gPi (fun v s' => (v = (if ((0 ≤ x1 ∧ x1 ≤ 9) ∧ gbit (s.1 400 16) x1 = 1) ∧ 0 < x2 then gC (mhj s) (mrk s) x1 x2 else -1) ∧ s' = s) ∧ gRg s')) := by
  refine gMet_of (plainFor_of_name (by decide)) hG (Nat.le_of_ble_eq_true rfl) (fun X hX hE => ?_)
  refine bk_X8_ranks_0 hX hE s p0 x1 x2  ?_
  refine ⟨p1, fun a => ⟨by rw [if_neg (fun z => a z.1)], rfl⟩, fun a => ⟨p2, fun b => ⟨by rw [if_neg (fun z => by omega)], rfl⟩, fun b => ⟨by omega, ?_, rfl⟩⟩⟩
  rw [if_pos ⟨a, b⟩]
  rfl
set_option maxRecDepth 100000 in
set_option maxHeartbeats 4000000 in
theorem bk_X8_sing_0 {X : gX} {G : gG} (hX : gOk X G cX8_sing 2 RX8 (some .int) 2) {Q : Int → gS → Prop} (hE : gEnd X G (gPi (fun v s' => Q v s' ∧ gRg s'))) (s : gS) (hs : gRg s) (x1 : Int)  (h : (rng x1) ∧ ((1 ≤ x1 ∧ x1 ≤ 1023 → Q (gones x1) (gpI s 400 16 x1)) ∧ (¬ (1 ≤ x1 ∧ x1 ≤ 1023) → Q (-1) s))) : gWL X G s 0 [(0, gR G 400), (1, vi x1)] [] := by
  refine g_iload_n hX dX8_sing_0 1 rfl ?_
  refine g_iconst hX dX8_sing_1 ?_
  refine g_sipush hX dX8_sing_2 rfl ?_
  obtain ⟨h1, h⟩ := h
  refine g_cSf (As := [vi x1, vi 1, vi 1023]) hX (fun l => c_X8_isIn l hX.inj s x1 1 1023 hs h1 (by unfold rng; omega) (by unfold rng; omega)) cv_X8_102 (by decide) rfl (Nat.le_of_ble_eq_true rfl) dX8_sing_5 rfl (fun g2 => ?_)
  refine g_ifne (tgt := 13) hX (gb_rng _) dX8_sing_8 (by decide) (fun c3 => ?_) (fun c3 => ?_)
  · replace h := h.1 (gb_n0.mp c3)
    refine g_aload_n hX dX8_sing_13 0 rfl ?_
    refine g_iload_n hX dX8_sing_14 1 rfl ?_
    refine g_putI hX sh_400 16 rfl fl_X8_141 (fun _ _ _ e => by cases e; rfl) dX8_sing_15 ?_
    refine g_iload_n hX dX8_sing_18 1 rfl ?_
    refine g_cSf (As := [vi x1]) hX (fun l => c_X8_ones l hX.inj (gpI s 400 16 x1) x1 (gRg_I hs h1)) cv_X8_144 (by decide) rfl (Nat.le_of_ble_eq_true rfl) dX8_sing_19 rfl (fun g4 => ?_)
    exact g_iret hX hE dX8_sing_22 ⟨h, (gRg_I hs h1)⟩
  · replace h := h.2 (gb_eq0.mp (gnn c3))
    refine g_iconst hX dX8_sing_11 ?_
    exact g_iret hX hE dX8_sing_12 ⟨h, hs⟩
set_option maxRecDepth 100000 in
set_option maxHeartbeats 4000000 in
theorem c_X8_sing (l : Launch) {G : gG} (hG : gInj G) (s : gS) (x1 : Int) (p0 : gRg s) (p1 : rng x1) : gMet l G yX8_sing cX8_sing 2 (some .int) 2 [gR G 400, vi x1] s (gPi (fun v s' => (if 1 ≤ x1 ∧ x1 ≤ 1023 then v = gones x1 ∧ s' = gpI s 400 16 x1 else v = -1 ∧ s' = s) ∧ gRg s')) := by
  refine gMet_of (plainFor_of_name (by decide)) hG (Nat.le_of_ble_eq_true rfl) (fun X hX hE => ?_)
  refine bk_X8_sing_0 hX hE s p0 x1  ?_
  exact ⟨p1, fun a => by rw [if_pos a]; exact ⟨rfl, rfl⟩, fun a => by rw [if_neg a]; exact ⟨rfl, rfl⟩⟩

