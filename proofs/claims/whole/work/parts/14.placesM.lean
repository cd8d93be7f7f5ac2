theorem fl_X8_69 : gFL RX8 69 8 20 := ⟨RX8, TX8, 34, tyX8, rfl, by decide, inG_X8, (gm_3 58 rfl rfl), tyX8_ok, nmX8, fun h => absurd h (by decide)⟩
theorem cv_X8_156 : gCV RX8 156 yX8_judges cX8_judges 3 (some .int) 0 8 := ⟨TX8, 34, rfl, (gm_4 1 rfl rfl), (gm_3 226 rfl rfl), (gm_3 227 rfl rfl), (gm_1 9 rfl rfl), (gm_3 228 rfl rfl), ⟨by decide, by decide, by decide +kernel⟩, by decide⟩
theorem cv_X8_163 : gCV RX8 163 yX8_against cX8_against 7 (some .int) 3 8 := ⟨TX8, 34, rfl, (gm_4 10 rfl rfl), (gm_4 12 rfl rfl), (gm_s 28 rfl rfl), (gm_1 9 rfl rfl), (gm_4 13 rfl rfl), ⟨by decide, by decide, by decide +kernel⟩, by decide⟩
theorem cv_X8_166 : gCV RX8 166 yX8_placesOf cX8_placesOf 9 none 0 8 := ⟨TX8, 34, rfl, (gm_4 2 rfl rfl), (gm_4 4 rfl rfl), (gm_s 26 rfl rfl), (gm_1 9 rfl rfl), (gm_4 5 rfl rfl), ⟨by decide, by decide, by decide +kernel⟩, by decide⟩
/-! ===== the reference's places ===== -/
def msg (s : gS) (c : Int) : Prop := (0 ≤ c ∧ c ≤ 9) ∧ gbit (s.1 400 16) c = 1
def mF (s : gS) (c : Int) : Int := gfst (fun k => decide (gJ (mhj s) < 2 * gC (mhj s) (mrk s) c k)) 1 10
def mD (s : gS) (k : Int) : Int := gsum (fun b => if ((0 ≤ b ∧ b ≤ 9) ∧ gbit (s.1 400 16) b = 1) ∧ mF s b < k then 1 else 0) 10
def mA (s : gS) (c : Int) : Int := gsum (fun b => if (((0 ≤ b ∧ b ≤ 9) ∧ gbit (s.1 400 16) b = 1) ∧ mF s b = mF s c) ∧ mag s b c (mF s c) < 0 then 1 else 0) 10
def mpl (s : gS) (c k : Int) : Int := if ((0 ≤ c ∧ c ≤ 9) ∧ gbit (s.1 400 16) c = 1) ∧ mF s c < k then mD s (mF s c) + mA s c + 1 else 0
/-- s' is s but for the places -/
def moff (s s' : gS) : Prop := s'.1 = s.1 ∧ ∀ k : Int, k ≠ 421 → s'.2 k = s.2 k
def mplaced (s s' : gS) : Prop := moff s s' ∧ ∀ c : Int, 0 ≤ c → c < 10 → s'.2 421 c = mpl s c (gones (s.1 400 16) + 1)
theorem moff.rf (s : gS) : moff s s := ⟨rfl, fun _ _ => rfl⟩
theorem moff.put {s s' : gS} (h : moff s s') (i v : Int) : moff s (gpA s' 421 i v) := ⟨h.1, fun k hk => by
  rw [← h.2 k hk]
  funext i'
  exact gpA_nk hk⟩
theorem moff.hj {s s' : gS} (h : moff s s') : mhj s' = mhj s := by
  funext j; unfold mhj
  rw [h.1, h.2 418 (by decide), h.2 419 (by decide)]
theorem moff.rk {s s' : gS} (h : moff s s') : mrk s' = mrk s := by
  funext j c; unfold mrk
  rw [h.2 420 (by decide)]
theorem moff.ag {s s' : gS} (h : moff s s') (a b k : Int) : mag s' a b k = mag s a b k := by
  unfold mag; rw [h.hj, h.rk, h.1]
theorem moff.rb {s s' : gS} (h : moff s s') (hr : mRk s) : mRk s' := by
  unfold mRk; rw [h.2 420 (by decide)]; exact hr
theorem gfst_lt {P : Int → Bool} : ∀ (n : Nat) (k j : Int), k ≤ j → j < gfst P k n → P j = false
  | 0, k, j, h1, h2 => by
    have : gfst P k 0 = k := rfl
    omega
  | n + 1, k, j, h1, h2 => by
    rw [gfst_s] at h2
    by_cases hP : P k = true
    · rw [if_pos hP] at h2; omega
    · rw [if_neg hP] at h2
      by_cases e : j = k
      · subst e; simpa using hP
      · exact gfst_lt n (k + 1) j (by omega) h2
theorem gfst_at {P : Int → Bool} : ∀ (n : Nat) (k : Int), gfst P k n < k + n → P (gfst P k n) = true
  | 0, k, h => by
    have : gfst P k 0 = k := rfl
    omega
  | n + 1, k, h => by
    rw [gfst_s] at h ⊢
    by_cases hP : P k = true
    · rw [if_pos hP]; exact hP
    · rw [if_neg hP] at h ⊢
      exact gfst_at n (k + 1) (by omega)
theorem mF_bd (s : gS) (c : Int) : 1 ≤ mF s c ∧ mF s c ≤ 11 := gfst_bd _ 10 1
/-- placed at k: not before, and the greater half is there -/
theorem mF_eq {s : gS} {c k : Int} (h1 : 1 ≤ k) (h2 : k ≤ 10) (h3 : k ≤ mF s c) : mF s c = k ↔ gJ (mhj s) < 2 * gC (mhj s) (mrk s) c k := by
  constructor
  · intro h
    have := gfst_at (P := fun k => decide (gJ (mhj s) < 2 * gC (mhj s) (mrk s) c k)) 10 1 (by show mF s c < _; omega)
    have := of_decide_eq_true this
    rw [show gfst (fun k => decide (gJ (mhj s) < 2 * gC (mhj s) (mrk s) c k)) 1 10 = mF s c from rfl, h] at this
    exact this
  · intro h
    rcases Int.lt_or_le k (mF s c) with q | q
    · have := gfst_lt (P := fun k => decide (gJ (mhj s) < 2 * gC (mhj s) (mrk s) c k)) 10 1 k h1 q
      simp at this
      omega
    · omega
theorem mD_bd (s : gS) (k : Int) : 0 ≤ mD s k ∧ mD s k ≤ 10 := by
  have := gsum_bd (f := fun b => if ((0 ≤ b ∧ b ≤ 9) ∧ gbit (s.1 400 16) b = 1) ∧ mF s b < k then 1 else 0) (n := 10) (lo := 0) (hi := 1) (by omega) (fun i _ _ => by split <;> omega)
  unfold mD; omega
theorem mA_bd (s : gS) (c : Int) : 0 ≤ mA s c ∧ mA s c ≤ 10 := by
  have := gsum_bd (f := fun b => if (((0 ≤ b ∧ b ≤ 9) ∧ gbit (s.1 400 16) b = 1) ∧ mF s b = mF s c) ∧ mag s b c (mF s c) < 0 then 1 else 0) (n := 10) (lo := 0) (hi := 1) (by omega) (fun i _ _ => by split <;> omega)
  unfold mA; omega
theorem mag_rng {s : gS} {a b k : Int} (h : mRk s) (ha : 0 ≤ a ∧ a < 10) (hb : 0 ≤ b ∧ b < 10) : rng (mag s a b k) := by
  have key : ∀ (n : Nat) (q : Int), rng (gag (mhj s) (mrk s) a b q n) := by
    intro n
    induction n with
    | zero => intro q; exact rng_0
    | succ n ih =>
      intro q
      rw [gag_s]
      have hC1 := gC_bd (mhj s) (mrk s) a q
      have hC2 := gC_bd (mhj s) (mrk s) b q
      have hT1 := mT_bd (s := s) (c := a) (k := q) h ha.1 ha.2
      have hT2 := mT_bd (s := s) (c := b) (k := q) h hb.1 hb.2
      split
      · split
        · exact ih _
        · exact rng_of (by omega) (by omega)
      · exact rng_of (by omega) (by omega)
  exact key _ _
/-- the bits that stand in 'now' behind c clubs at rank k -/
def mnow (s : gS) (k c now : Int) : Prop := rng now ∧ ∀ b : Int, 0 ≤ b → b < 32 → gbit now b = if (b < c ∧ ((0 ≤ b ∧ b ≤ 9) ∧ gbit (s.1 400 16) b = 1)) ∧ mF s b = k then 1 else 0
theorem mnow_ones {s : gS} {k now : Int} (h : mnow s k 10 now) : gones now = gsum (fun b => if ((0 ≤ b ∧ b ≤ 9) ∧ gbit (s.1 400 16) b = 1) ∧ mF s b = k then 1 else 0) 10 := by
  unfold gones
  rw [gsum_tail (m := 10) (by omega) (by omega) (fun i h0 h1 => by rw [h.2 i (by omega) (by omega), if_neg (fun z => by omega)])]
  refine gsum_congr (by omega) (fun i h0 h1 => ?_)
  rw [h.2 i h0 (by omega)]
  by_cases q : ((0 ≤ i ∧ i ≤ 9) ∧ gbit (s.1 400 16) i = 1) ∧ mF s i = k
  · rw [if_pos ⟨⟨h1, q.1⟩, q.2⟩, if_pos q]
  · rw [if_neg (fun z => q ⟨z.1.2, z.2⟩), if_neg q]
theorem mD_s (s : gS) (k : Int) : mD s (k + 1) = mD s k + gsum (fun b => if ((0 ≤ b ∧ b ≤ 9) ∧ gbit (s.1 400 16) b = 1) ∧ mF s b = k then 1 else 0) 10 := by
  have key : ∀ n : Int, 0 ≤ n → n ≤ 10 → gsum (fun b => if ((0 ≤ b ∧ b ≤ 9) ∧ gbit (s.1 400 16) b = 1) ∧ mF s b < k + 1 then 1 else 0) n = gsum (fun b => if ((0 ≤ b ∧ b ≤ 9) ∧ gbit (s.1 400 16) b = 1) ∧ mF s b < k then 1 else 0) n + gsum (fun b => if ((0 ≤ b ∧ b ≤ 9) ∧ gbit (s.1 400 16) b = 1) ∧ mF s b = k then 1 else 0) n := by
    intro n h0 h1
    refine giter_ind (f := fun i a => a + (if ((0 ≤ i ∧ i ≤ 9) ∧ gbit (s.1 400 16) i = 1) ∧ mF s i < k + 1 then 1 else 0)) (a := (0 : Int)) (N := 10) (fun n x => x = gsum (fun b => if ((0 ≤ b ∧ b ≤ 9) ∧ gbit (s.1 400 16) b = 1) ∧ mF s b < k then 1 else 0) n + gsum (fun b => if ((0 ≤ b ∧ b ≤ 9) ∧ gbit (s.1 400 16) b = 1) ∧ mF s b = k then 1 else 0) n) rfl (fun i x hi hn hx => ?_) n h0 h1
    rw [gsum_s _ hi, gsum_s _ hi, hx]
    by_cases q : (0 ≤ i ∧ i ≤ 9) ∧ gbit (s.1 400 16) i = 1
    · rcases Int.lt_trichotomy (mF s i) k with z | z | z
      · rw [if_pos ⟨q, by omega⟩, if_pos ⟨q, z⟩, if_neg (fun y => by omega)]; omega
      · rw [if_pos ⟨q, by omega⟩, if_neg (fun y => by omega), if_pos ⟨q, z⟩]; omega
      · rw [if_neg (fun y => by omega), if_neg (fun y => by omega), if_neg (fun y => by omega)]; omega
    · rw [if_neg (fun y => q y.1), if_neg (fun y => q y.1), if_neg (fun y => q y.1)]; omega
  exact key 10 (by omega) (by omega)
set_option maxRecDepth 100000 in
set_option maxHeartbeats 4000000 in
theorem bk_X8_placesOf_0 {X : gX} {G : gG} (hX : gOk X G cX8_placesOf 9 RX8 none 4) {Q : gS → Prop} (hE : gEnd X G (gPv (fun s' => Q s' ∧ gRg s'))) (s : gS) (hs : gRg s)   (h : (rng (gJ (mhj s))) ∧ gWL X G s 22 [(0, gR G 400), (1, vi (((gJ (mhj s)).tdiv 2) + 1)), (2, vi (gones (s.1 400 16))), (3, vi 0), (4, vi 0)] []) : gWL X G s 0 [(0, gR G 400)] [] := by
  refine g_aload_n hX dX8_placesOf_0 0 rfl ?_
  refine g_cVf (As := []) hX (fun l => c_X8_judges l hX.inj s  hs) sh_400 cv_X8_156 (by decide) rfl (Nat.le_of_ble_eq_true rfl) dX8_placesOf_1 rfl (fun g1 => ?_)
  refine g_iconst hX dX8_placesOf_4 ?_
  obtain ⟨h2, h⟩ := h
  refine g_idiv hX h2 (by unfold rng; omega) (by omega) dX8_placesOf_5 ?_
  refine g_iconst hX dX8_placesOf_6 ?_
  refine g_iadd hX dX8_placesOf_7 ?_
  refine g_istore_n (loc' := [(1, vi (((gJ (mhj s)).tdiv 2) + 1)), (0, gR G 400)]) hX dX8_placesOf_8 (by decide) rfl ?_
  refine g_aload_n hX dX8_placesOf_9 1 rfl ?_
  refine g_getI hX sh_400 16 rfl fl_X8_141 dX8_placesOf_10 ?_
  refine g_cSf (As := [vi (s.1 400 16)]) hX (fun l => c_X8_ones l hX.inj s (s.1 400 16) hs) cv_X8_144 (by decide) rfl (Nat.le_of_ble_eq_true rfl) dX8_placesOf_13 rfl (fun g3 => ?_)
  refine g_istore_n (loc' := [(2, vi (gones (s.1 400 16))), (1, vi (((gJ (mhj s)).tdiv 2) + 1)), (0, gR G 400)]) hX dX8_placesOf_16 (by decide) rfl ?_
  refine g_iconst hX dX8_placesOf_17 ?_
  refine g_istore_n (loc' := [(3, vi 0), (2, vi (gones (s.1 400 16))), (1, vi (((gJ (mhj s)).tdiv 2) + 1)), (0, gR G 400)]) hX dX8_placesOf_18 (by decide) rfl ?_
  refine g_iconst hX dX8_placesOf_19 ?_
  refine g_istore (loc' := [(4, vi 0), (3, vi 0), (2, vi (gones (s.1 400 16))), (1, vi (((gJ (mhj s)).tdiv 2) + 1)), (0, gR G 400)]) hX dX8_placesOf_20 (by decide) rfl ?_
  exact g_sub [4, 3, 2, 1, 0] rfl h
set_option maxRecDepth 100000 in
set_option maxHeartbeats 4000000 in
theorem bk_X8_placesOf_22 {X : gX} {G : gG} (hX : gOk X G cX8_placesOf 9 RX8 none 4) {Q : gS → Prop} (hE : gEnd X G (gPv (fun s' => Q s' ∧ gRg s'))) (s : gS) (hs : gRg s) (x1 : Int) (x2 : Int) (x3 : Int) (x4 : Int)  (h : (rng x4) ∧ ((10 ≤ x4 → gWL X G s 46 [(0, gR G 400), (1, vi x1), (2, vi x2), (3, vi x3), (4, vi 1)] []) ∧ (x4 < 10 → (0 ≤ x4 ∧ x4 < 10) ∧ gWL X G (gpA s 421 x4 0) 22 [(0, gR G 400), (1, vi x1), (2, vi x2), (3, vi x3), (4, vi (x4 + 1))] []))) : gWL X G s 22 [(0, gR G 400), (1, vi x1), (2, vi x2), (3, vi x3), (4, vi x4)] [] := by
  refine g_iload hX dX8_placesOf_22 4 rfl ?_
  refine g_bipush hX dX8_placesOf_24 rfl ?_
  obtain ⟨h1, h⟩ := h
  refine g_icge (tgt := 43) hX h1 (by unfold rng; omega) dX8_placesOf_26 (by decide) (fun c2 => ?_) (fun c2 => ?_)
  · replace h := h.1 c2
    refine g_iconst hX dX8_placesOf_43 ?_
    refine g_istore (loc' := [(4, vi 1), (0, gR G 400), (1, vi x1), (2, vi x2), (3, vi x3)]) hX dX8_placesOf_44 (by decide) rfl ?_
    exact g_sub [1, 2, 3, 4, 0] rfl h
  · replace h := h.2 (Int.not_le.mp c2)
    refine g_aload_n hX dX8_placesOf_29 0 rfl ?_
    refine g_getR hX sh_400 20 rfl fl_X8_69 dX8_placesOf_30 ?_
    refine g_iload hX dX8_placesOf_33 4 rfl ?_
    refine g_iconst hX dX8_placesOf_35 ?_
    obtain ⟨h3, h⟩ := h
    refine g_iast hX sh_421 h3 (by decide) dX8_placesOf_36 ?_
    refine g_iinc (loc' := [(4, vi (x4 + 1)), (0, gR G 400), (1, vi x1), (2, vi x2), (3, vi x3)]) hX dX8_placesOf_37 4 rfl (by decide) rfl ?_
    refine g_goto (tgt := 22) hX dX8_placesOf_40 (by decide) ?_
    exact g_sub [1, 2, 3, 4, 0] rfl h
set_option maxRecDepth 100000 in
set_option maxHeartbeats 4000000 in
theorem bk_X8_placesOf_46 {X : gX} {G : gG} (hX : gOk X G cX8_placesOf 9 RX8 none 4) {Q : gS → Prop} (hE : gEnd X G (gPv (fun s' => Q s' ∧ gRg s'))) (s : gS) (hs : gRg s) (x1 : Int) (x2 : Int) (x3 : Int) (x4 : Int)  (h : (rng x4) ∧ (rng x2) ∧ ((x2 < x4 → Q s) ∧ (x4 ≤ x2 → gWL X G s 58 [(0, gR G 400), (1, vi x1), (2, vi x2), (3, vi x3), (4, vi x4), (5, vi 0), (6, vi 0)] []))) : gWL X G s 46 [(0, gR G 400), (1, vi x1), (2, vi x2), (3, vi x3), (4, vi x4)] [] := by
  refine g_iload hX dX8_placesOf_46 4 rfl ?_
  refine g_iload_n hX dX8_placesOf_48 2 rfl ?_
  obtain ⟨h1, h⟩ := h
  obtain ⟨h2, h⟩ := h
  refine g_icgt (tgt := 214) hX h1 h2 dX8_placesOf_49 (by decide) (fun c3 => ?_) (fun c3 => ?_)
  · replace h := h.1 c3
    exact g_vret hX hE dX8_placesOf_214 ⟨h, hs⟩
  · replace h := h.2 (Int.not_lt.mp c3)
    refine g_iconst hX dX8_placesOf_52 ?_
    refine g_istore (loc' := [(5, vi 0), (0, gR G 400), (1, vi x1), (2, vi x2), (3, vi x3), (4, vi x4)]) hX dX8_placesOf_53 (by decide) rfl ?_
    refine g_iconst hX dX8_placesOf_55 ?_
    refine g_istore (loc' := [(6, vi 0), (5, vi 0), (0, gR G 400), (1, vi x1), (2, vi x2), (3, vi x3), (4, vi x4)]) hX dX8_placesOf_56 (by decide) rfl ?_
    exact g_sub [2, 3, 4, 5, 6, 1, 0] rfl h
set_option maxRecDepth 100000 in
set_option maxHeartbeats 4000000 in
theorem bk_X8_placesOf_58 {X : gX} {G : gG} (hX : gOk X G cX8_placesOf 9 RX8 none 4) {Q : gS → Prop} (hE : gEnd X G (gPv (fun s' => Q s' ∧ gRg s'))) (s : gS) (hs : gRg s) (x1 : Int) (x2 : Int) (x3 : Int) (x4 : Int) (x5 : Int) (x6 : Int)  (h : (rng x6) ∧ ((10 ≤ x6 → gWL X G s 115 [(0, gR G 400), (1, vi x1), (2, vi x2), (3, vi x3), (4, vi x4), (5, vi x5), (6, vi 0)] []) ∧ (x6 < 10 → ((¬ ((0 ≤ x6 ∧ x6 ≤ 9) ∧ gbit (s.1 400 16) x6 = 1) → gWL X G s 58 [(0, gR G 400), (1, vi x1), (2, vi x2), (3, vi x3), (4, vi x4), (5, vi x5), (6, vi (x6 + 1))] []) ∧ ((0 ≤ x6 ∧ x6 ≤ 9) ∧ gbit (s.1 400 16) x6 = 1 → (0 ≤ x6 ∧ x6 < 10) ∧ ((¬ (s.2 421 x6) = 0 → gWL X G s 58 [(0, gR G 400), (1, vi x1), (2, vi x2), (3, vi x3), (4, vi x4), (5, vi x5), (6, vi (x6 + 1))] []) ∧ ((s.2 421 x6) = 0 → (rng x4) ∧ (rng (mranked s x6 x4 0)) ∧ (rng x1) ∧ (((mranked s x6 x4 0) < x1 → gWL X G s 58 [(0, gR G 400), (1, vi x1), (2, vi x2), (3, vi x3), (4, vi x4), (5, vi x5), (6, vi (x6 + 1))] []) ∧ (x1 ≤ (mranked s x6 x4 0) → gWL X G s 58 [(0, gR G 400), (1, vi x1), (2, vi x2), (3, vi x3), (4, vi x4), (5, vi (gor x5 (gshl 1 x6))), (6, vi (x6 + 1))] []))))))))) : gWL X G s 58 [(0, gR G 400), (1, vi x1), (2, vi x2), (3, vi x3), (4, vi x4), (5, vi x5), (6, vi x6)] [] := by
  refine g_iload hX dX8_placesOf_58 6 rfl ?_
  refine g_bipush hX dX8_placesOf_60 rfl ?_
  obtain ⟨h1, h⟩ := h
  refine g_icge (tgt := 112) hX h1 (by unfold rng; omega) dX8_placesOf_62 (by decide) (fun c2 => ?_) (fun c2 => ?_)
  · replace h := h.1 c2
    refine g_iconst hX dX8_placesOf_112 ?_
    refine g_istore (loc' := [(6, vi 0), (0, gR G 400), (1, vi x1), (2, vi x2), (3, vi x3), (4, vi x4), (5, vi x5)]) hX dX8_placesOf_113 (by decide) rfl ?_
    exact g_sub [1, 2, 3, 4, 5, 6, 0] rfl h
  · replace h := h.2 (Int.not_le.mp c2)
    refine g_aload_n hX dX8_placesOf_65 0 rfl ?_
    refine g_iload hX dX8_placesOf_66 6 rfl ?_
    refine g_cVf (As := [vi x6]) hX (fun l => c_X8_sings l hX.inj s x6 hs h1) sh_400 cv_X8_160 (by decide) rfl (Nat.le_of_ble_eq_true rfl) dX8_placesOf_68 rfl (fun g3 => ?_)
    refine g_ifeq (tgt := 106) hX (gb_rng _) dX8_placesOf_71 (by decide) (fun c4 => ?_) (fun c4 => ?_)
    · replace h := h.1 (gb_eq0.mp c4)
      refine g_iinc (loc' := [(6, vi (x6 + 1)), (0, gR G 400), (1, vi x1), (2, vi x2), (3, vi x3), (4, vi x4), (5, vi x5)]) hX dX8_placesOf_106 6 rfl (by decide) rfl ?_
      refine g_goto (tgt := 58) hX dX8_placesOf_109 (by decide) ?_
      exact g_sub [1, 2, 3, 4, 5, 6, 0] rfl h
    · replace h := h.2 (gb_n0.mp c4)
      refine g_aload_n hX dX8_placesOf_74 0 rfl ?_
      refine g_getR hX sh_400 20 rfl fl_X8_69 dX8_placesOf_75 ?_
      refine g_iload hX dX8_placesOf_78 6 rfl ?_
      obtain ⟨h5, h⟩ := h
      refine g_iald hX sh_421 h5 (by decide) dX8_placesOf_80 ?_
      refine g_ifne (tgt := 106) hX (hs.2 _ _) dX8_placesOf_81 (by decide) (fun c6 => ?_) (fun c6 => ?_)
      · replace h := h.1 c6
        refine g_iinc (loc' := [(6, vi (x6 + 1)), (0, gR G 400), (1, vi x1), (2, vi x2), (3, vi x3), (4, vi x4), (5, vi x5)]) hX dX8_placesOf_106 6 rfl (by decide) rfl ?_
        refine g_goto (tgt := 58) hX dX8_placesOf_109 (by decide) ?_
        exact g_sub [1, 2, 3, 4, 5, 6, 0] rfl h
      · replace h := h.2 (gnn c6)
        refine g_aload_n hX dX8_placesOf_84 0 rfl ?_
        refine g_iload hX dX8_placesOf_85 6 rfl ?_
        refine g_iload hX dX8_placesOf_87 4 rfl ?_
        refine g_iconst hX dX8_placesOf_89 ?_
        obtain ⟨h7, h⟩ := h
        refine g_cVf (As := [vi x6, vi x4, vi 0]) hX (fun l => c_X8_ranked l hX.inj s x6 x4 0 hs h7 (by unfold rng; omega) h5) sh_400 cv_X8_152 (by decide) rfl (Nat.le_of_ble_eq_true rfl) dX8_placesOf_90 rfl (fun g8 => ?_)
        refine g_iload_n hX dX8_placesOf_93 1 rfl ?_
        obtain ⟨h9, h⟩ := h
        obtain ⟨h10, h⟩ := h
        refine g_iclt (tgt := 106) hX h9 h10 dX8_placesOf_94 (by decide) (fun c11 => ?_) (fun c11 => ?_)
        · replace h := h.1 c11
          refine g_iinc (loc' := [(6, vi (x6 + 1)), (0, gR G 400), (1, vi x1), (2, vi x2), (3, vi x3), (4, vi x4), (5, vi x5)]) hX dX8_placesOf_106 6 rfl (by decide) rfl ?_
          refine g_goto (tgt := 58) hX dX8_placesOf_109 (by decide) ?_
          exact g_sub [1, 2, 3, 4, 5, 6, 0] rfl h
        · replace h := h.2 (Int.not_lt.mp c11)
          refine g_iload hX dX8_placesOf_97 5 rfl ?_
          refine g_iconst hX dX8_placesOf_99 ?_
          refine g_iload hX dX8_placesOf_100 6 rfl ?_
          refine g_ishl hX dX8_placesOf_102 ?_
          refine g_ior hX dX8_placesOf_103 ?_
          refine g_istore (loc' := [(5, vi (gor x5 (gshl 1 x6))), (0, gR G 400), (1, vi x1), (2, vi x2), (3, vi x3), (4, vi x4), (6, vi x6)]) hX dX8_placesOf_104 (by decide) rfl ?_
          refine g_iinc (loc' := [(6, vi (x6 + 1)), (5, vi (gor x5 (gshl 1 x6))), (0, gR G 400), (1, vi x1), (2, vi x2), (3, vi x3), (4, vi x4)]) hX dX8_placesOf_106 6 rfl (by decide) rfl ?_
          refine g_goto (tgt := 58) hX dX8_placesOf_109 (by decide) ?_
          exact g_sub [2, 3, 4, 5, 6, 1, 0] rfl h
set_option maxRecDepth 100000 in
set_option maxHeartbeats 4000000 in
theorem bk_X8_placesOf_115 {X : gX} {G : gG} (hX : gOk X G cX8_placesOf 9 RX8 none 4) {Q : gS → Prop} (hE : gEnd X G (gPv (fun s' => Q s' ∧ gRg s'))) (s : gS) (hs : gRg s) (x1 : Int) (x2 : Int) (x3 : Int) (x4 : Int) (x5 : Int) (x6 : Int)  (h : (rng x6) ∧ ((10 ≤ x6 → gWL X G s 46 [(0, gR G 400), (1, vi x1), (2, vi x2), (3, vi (x3 + (gones x5))), (4, vi (x4 + 1))] []) ∧ (x6 < 10 → ((¬ (gand (gshr x5 x6) 1) = 0 → gWL X G s 141 [(0, gR G 400), (1, vi x1), (2, vi x2), (3, vi x3), (4, vi x4), (5, vi x5), (6, vi x6), (7, vi 0), (8, vi 0)] []) ∧ ((gand (gshr x5 x6) 1) = 0 → gWL X G s 115 [(0, gR G 400), (1, vi x1), (2, vi x2), (3, vi x3), (4, vi x4), (5, vi x5), (6, vi (x6 + 1))] []))))) : gWL X G s 115 [(0, gR G 400), (1, vi x1), (2, vi x2), (3, vi x3), (4, vi x4), (5, vi x5), (6, vi x6)] [] := by
  refine g_iload hX dX8_placesOf_115 6 rfl ?_
  refine g_bipush hX dX8_placesOf_117 rfl ?_
  obtain ⟨h1, h⟩ := h
  refine g_icge (tgt := 200) hX h1 (by unfold rng; omega) dX8_placesOf_119 (by decide) (fun c2 => ?_) (fun c2 => ?_)
  · replace h := h.1 c2
    refine g_iload_n hX dX8_placesOf_200 3 rfl ?_
    refine g_iload hX dX8_placesOf_201 5 rfl ?_
    refine g_cSf (As := [vi x5]) hX (fun l => c_X8_ones l hX.inj s x5 hs) cv_X8_144 (by decide) rfl (Nat.le_of_ble_eq_true rfl) dX8_placesOf_203 rfl (fun g3 => ?_)
    refine g_iadd hX dX8_placesOf_206 ?_
    refine g_istore_n (loc' := [(3, vi (x3 + (gones x5))), (0, gR G 400), (1, vi x1), (2, vi x2), (4, vi x4), (5, vi x5), (6, vi x6)]) hX dX8_placesOf_207 (by decide) rfl ?_
    refine g_iinc (loc' := [(4, vi (x4 + 1)), (3, vi (x3 + (gones x5))), (0, gR G 400), (1, vi x1), (2, vi x2), (5, vi x5), (6, vi x6)]) hX dX8_placesOf_208 4 rfl (by decide) rfl ?_
    refine g_goto (tgt := 46) hX dX8_placesOf_211 (by decide) ?_
    exact g_sub [2, 3, 4, 1, 0] rfl h
  · replace h := h.2 (Int.not_le.mp c2)
    refine g_iload hX dX8_placesOf_122 5 rfl ?_
    refine g_iload hX dX8_placesOf_124 6 rfl ?_
    refine g_ishr hX dX8_placesOf_126 ?_
    refine g_iconst hX dX8_placesOf_127 ?_
    refine g_iand hX dX8_placesOf_128 ?_
    refine g_ifne (tgt := 135) hX (rng_i _) dX8_placesOf_129 (by decide) (fun c4 => ?_) (fun c4 => ?_)
    · replace h := h.1 c4
      refine g_iconst hX dX8_placesOf_135 ?_
      refine g_istore (loc' := [(7, vi 0), (0, gR G 400), (1, vi x1), (2, vi x2), (3, vi x3), (4, vi x4), (5, vi x5), (6, vi x6)]) hX dX8_placesOf_136 (by decide) rfl ?_
      refine g_iconst hX dX8_placesOf_138 ?_
      refine g_istore (loc' := [(8, vi 0), (7, vi 0), (0, gR G 400), (1, vi x1), (2, vi x2), (3, vi x3), (4, vi x4), (5, vi x5), (6, vi x6)]) hX dX8_placesOf_139 (by decide) rfl ?_
      exact g_sub [2, 3, 4, 5, 6, 7, 8, 1, 0] rfl h
    · replace h := h.2 (gnn c4)
      refine g_goto (tgt := 194) hX dX8_placesOf_132 (by decide) ?_
      refine g_iinc (loc' := [(6, vi (x6 + 1)), (0, gR G 400), (1, vi x1), (2, vi x2), (3, vi x3), (4, vi x4), (5, vi x5)]) hX dX8_placesOf_194 6 rfl (by decide) rfl ?_
      refine g_goto (tgt := 115) hX dX8_placesOf_197 (by decide) ?_
      exact g_sub [1, 2, 3, 4, 5, 6, 0] rfl h
set_option maxRecDepth 100000 in
set_option maxHeartbeats 4000000 in
theorem bk_X8_placesOf_141 {X : gX} {G : gG} (hX : gOk X G cX8_placesOf 9 RX8 none 4) {Q : gS → Prop} (hE : gEnd X G (gPv (fun s' => Q s' ∧ gRg s'))) (s : gS) (hs : gRg s) (x1 : Int) (x2 : Int) (x3 : Int) (x4 : Int) (x5 : Int) (x6 : Int) (x7 : Int) (x8 : Int)  (h : (rng x8) ∧ ((10 ≤ x8 → (0 ≤ x6 ∧ x6 < 10) ∧ (rng ((x3 + x7) + 1)) ∧ gWL X G (gpA s 421 x6 ((x3 + x7) + 1)) 115 [(0, gR G 400), (1, vi x1), (2, vi x2), (3, vi x3), (4, vi x4), (5, vi x5), (6, vi (x6 + 1))] []) ∧ (x8 < 10 → ((¬ (gand (gshr x5 x8) 1) = 1 → gWL X G s 141 [(0, gR G 400), (1, vi x1), (2, vi x2), (3, vi x3), (4, vi x4), (5, vi x5), (6, vi x6), (7, vi x7), (8, vi (x8 + 1))] []) ∧ ((gand (gshr x5 x8) 1) = 1 → (mRk s) ∧ (0 ≤ x8 ∧ x8 < 10) ∧ (0 ≤ x6 ∧ x6 < 10) ∧ (1 ≤ x4 ∧ x4 ≤ 30) ∧ (rng (mag s x8 x6 x4)) ∧ ((0 ≤ (mag s x8 x6 x4) → gWL X G s 141 [(0, gR G 400), (1, vi x1), (2, vi x2), (3, vi x3), (4, vi x4), (5, vi x5), (6, vi x6), (7, vi x7), (8, vi (x8 + 1))] []) ∧ ((mag s x8 x6 x4) < 0 → gWL X G s 141 [(0, gR G 400), (1, vi x1), (2, vi x2), (3, vi x3), (4, vi x4), (5, vi x5), (6, vi x6), (7, vi (x7 + 1)), (8, vi (x8 + 1))] []))))))) : gWL X G s 141 [(0, gR G 400), (1, vi x1), (2, vi x2), (3, vi x3), (4, vi x4), (5, vi x5), (6, vi x6), (7, vi x7), (8, vi x8)] [] := by
  refine g_iload hX dX8_placesOf_141 8 rfl ?_
  refine g_bipush hX dX8_placesOf_143 rfl ?_
  obtain ⟨h1, h⟩ := h
  refine g_icge (tgt := 181) hX h1 (by unfold rng; omega) dX8_placesOf_145 (by decide) (fun c2 => ?_) (fun c2 => ?_)
  · replace h := h.1 c2
    refine g_aload_n hX dX8_placesOf_181 0 rfl ?_
    refine g_getR hX sh_400 20 rfl fl_X8_69 dX8_placesOf_182 ?_
    refine g_iload hX dX8_placesOf_185 6 rfl ?_
    refine g_iload_n hX dX8_placesOf_187 3 rfl ?_
    refine g_iload hX dX8_placesOf_188 7 rfl ?_
    refine g_iadd hX dX8_placesOf_190 ?_
    refine g_iconst hX dX8_placesOf_191 ?_
    refine g_iadd hX dX8_placesOf_192 ?_
    obtain ⟨h3, h⟩ := h
    obtain ⟨h4, h⟩ := h
    refine g_iast hX sh_421 h3 (by decide) dX8_placesOf_193 ?_
    refine g_iinc (loc' := [(6, vi (x6 + 1)), (0, gR G 400), (1, vi x1), (2, vi x2), (3, vi x3), (4, vi x4), (5, vi x5), (7, vi x7), (8, vi x8)]) hX dX8_placesOf_194 6 rfl (by decide) rfl ?_
    refine g_goto (tgt := 115) hX dX8_placesOf_197 (by decide) ?_
    exact g_sub [1, 2, 3, 4, 5, 6, 0] rfl h
  · replace h := h.2 (Int.not_le.mp c2)
    refine g_iload hX dX8_placesOf_148 5 rfl ?_
    refine g_iload hX dX8_placesOf_150 8 rfl ?_
    refine g_ishr hX dX8_placesOf_152 ?_
    refine g_iconst hX dX8_placesOf_153 ?_
    refine g_iand hX dX8_placesOf_154 ?_
    refine g_iconst hX dX8_placesOf_155 ?_
    refine g_icne (tgt := 175) hX (rng_i _) (by unfold rng; omega) dX8_placesOf_156 (by decide) (fun c5 => ?_) (fun c5 => ?_)
    · replace h := h.1 c5
      refine g_iinc (loc' := [(8, vi (x8 + 1)), (0, gR G 400), (1, vi x1), (2, vi x2), (3, vi x3), (4, vi x4), (5, vi x5), (6, vi x6), (7, vi x7)]) hX dX8_placesOf_175 8 rfl (by decide) rfl ?_
      refine g_goto (tgt := 141) hX dX8_placesOf_178 (by decide) ?_
      exact g_sub [1, 2, 3, 4, 5, 6, 7, 8, 0] rfl h
    · replace h := h.2 (gnn c5)
      refine g_aload_n hX dX8_placesOf_159 0 rfl ?_
      refine g_iload hX dX8_placesOf_160 8 rfl ?_
      refine g_iload hX dX8_placesOf_162 6 rfl ?_
      refine g_iload hX dX8_placesOf_164 4 rfl ?_
      obtain ⟨h6, h⟩ := h
      obtain ⟨h7, h⟩ := h
      obtain ⟨h8, h⟩ := h
      obtain ⟨h9, h⟩ := h
      refine g_cVf (As := [vi x8, vi x6, vi x4]) hX (fun l => c_X8_against l hX.inj s x8 x6 x4 hs h6 h7 h8 h9) sh_400 cv_X8_163 (by decide) rfl (Nat.le_of_ble_eq_true rfl) dX8_placesOf_166 rfl (fun g10 => ?_)
      obtain ⟨h11, h⟩ := h
      refine g_ifge (tgt := 175) hX h11 dX8_placesOf_169 (by decide) (fun c12 => ?_) (fun c12 => ?_)
      · replace h := h.1 c12
        refine g_iinc (loc' := [(8, vi (x8 + 1)), (0, gR G 400), (1, vi x1), (2, vi x2), (3, vi x3), (4, vi x4), (5, vi x5), (6, vi x6), (7, vi x7)]) hX dX8_placesOf_175 8 rfl (by decide) rfl ?_
        refine g_goto (tgt := 141) hX dX8_placesOf_178 (by decide) ?_
        exact g_sub [1, 2, 3, 4, 5, 6, 7, 8, 0] rfl h
      · replace h := h.2 (Int.not_le.mp c12)
        refine g_iinc (loc' := [(7, vi (x7 + 1)), (0, gR G 400), (1, vi x1), (2, vi x2), (3, vi x3), (4, vi x4), (5, vi x5), (6, vi x6), (8, vi x8)]) hX dX8_placesOf_172 7 rfl (by decide) rfl ?_
        refine g_iinc (loc' := [(8, vi (x8 + 1)), (7, vi (x7 + 1)), (0, gR G 400), (1, vi x1), (2, vi x2), (3, vi x3), (4, vi x4), (5, vi x5), (6, vi x6)]) hX dX8_placesOf_175 8 rfl (by decide) rfl ?_
        refine g_goto (tgt := 141) hX dX8_placesOf_178 (by decide) ?_
        exact g_sub [2, 3, 4, 5, 6, 7, 8, 1, 0] rfl h
set_option maxRecDepth 100000 in
set_option maxHeartbeats 4000000 in
theorem c_X8_placesOf (l : Launch) {G : gG} (hG : gInj G) (s : gS)  (p0 : gRg s) (p1 : mRk s) (p2 : 0 ≤ (s.1 400 16) ∧ (s.1 400 16) < 1024) : gMet l G yX8_placesOf cX8_placesOf 9 none 4 [gR G 400] s (gPv (fun s' => (mplaced s s') ∧ gRg s')) := by
  refine gMet_of (plainFor_of_name (by decide)) hG (Nat.le_of_ble_eq_true rfl) (fun X hX hE => ?_)
  refine bk_X8_placesOf_0 hX hE s p0   ?_
  have hJ := gJ_bd (mhj s)
  have hN := gones_bd (s.1 400 16)
  have hN10 := gones_10 p2.1 p2.2
  have hhalf : ∀ C : Int, ((gJ (mhj s)).tdiv 2 + 1 ≤ C ↔ gJ (mhj s) < 2 * C) := by
    intro C
    rw [Int.tdiv_eq_ediv_of_nonneg hJ.1]
    omega
  have hhr : rng ((gJ (mhj s)).tdiv 2 + 1) := by
    rw [Int.tdiv_eq_ediv_of_nonneg hJ.1]
    exact rng_of (by omega) (by omega)
  generalize (gJ (mhj s)).tdiv 2 + 1 = half at hhalf hhr ⊢
  refine ⟨rng_of (by omega) (by omega), ?_⟩
  refine gloop (α := gS) (hi := 10) (fun i t => 0 ≤ i ∧ gRg t ∧ moff s t ∧ ∀ c : Int, 0 ≤ c → c < i → t.2 421 c = 0) (fun i t => gWL X G t 22 [(0, gR G 400), (1, vi half), (2, vi (gones (s.1 400 16))), (3, vi 0), (4, vi i)] []) ?_ ?_ 0 s (by omega) ⟨by omega, p0, moff.rf s, fun c h0 h1 => by omega⟩
  · intro i t hi ⟨h0, hg, ho, hz⟩ next
    refine bk_X8_placesOf_22 hX hE t hg half _ 0 i ⟨rng_of (by omega) (by omega), fun h => by omega, fun _ => ⟨by omega, next _ ⟨by omega, gRg_A hg rng_0, ho.put _ _, fun c c0 c1 => ?_⟩⟩⟩
    by_cases e : c = i
    · subst e; exact gpA_eq
    · rw [gpA_ni e]; exact hz c c0 (by omega)
  intro t ⟨h0, hg, ho, hz⟩
  refine bk_X8_placesOf_22 hX hE t hg half _ 0 10 ⟨rng_of (by omega) (by omega), fun _ => ?_, fun h => by omega⟩
  -- the ranks
  refine gloop (α := gS × Int) (hi := gones (s.1 400 16) + 1) (fun k a => 1 ≤ k ∧ gRg a.1 ∧ moff s a.1 ∧ a.2 = mD s k ∧ ∀ c : Int, 0 ≤ c → c < 10 → a.1.2 421 c = mpl s c k) (fun k a => gWL X G a.1 46 [(0, gR G 400), (1, vi half), (2, vi (gones (s.1 400 16))), (3, vi a.2), (4, vi k)] []) ?_ ?_ 1 (t, 0) (by omega) ⟨by omega, hg, ho, ?_, fun c c0 c1 => ?_⟩
  · intro k ⟨t, dn⟩ hk ⟨hk1, hg, ho, hdn, hpl⟩ next
    dsimp only at hg ho hdn hpl ⊢
    have hD := mD_bd s k
    refine bk_X8_placesOf_46 hX hE t hg half _ dn k ⟨rng_of (by omega) (by omega), rng_of (by omega) (by omega), fun h => by omega, fun _ => ?_⟩
    have hs1 : t.1 400 16 = s.1 400 16 := by rw [ho.1]
    -- now
    refine gloop (α := Int) (hi := 10) (fun c now => 0 ≤ c ∧ mnow s k c now) (fun c now => gWL X G t 58 [(0, gR G 400), (1, vi half), (2, vi (gones (s.1 400 16))), (3, vi dn), (4, vi k), (5, vi now), (6, vi c)] []) ?_ ?_ 0 0 (by omega) ⟨by omega, rng_0, fun b b0 b1 => by rw [gbit_0 b0 b1, if_neg (fun z => by omega)]⟩
    · intro c now hc ⟨hc0, hnow⟩ next2
      have hCb := gC_bd (mhj s) (mrk s) c k
      have hstay : ¬ (((0 ≤ c ∧ c ≤ 9) ∧ gbit (s.1 400 16) c = 1) ∧ mF s c = k) → mnow s k (c + 1) now := by
        intro hnot
        refine ⟨hnow.1, fun b b0 b1 => ?_⟩
        rw [hnow.2 b b0 b1]
        by_cases e : b = c
        · subst e
          rw [if_neg (fun z => by omega), if_neg (fun z => hnot ⟨z.1.2, z.2⟩)]
        · by_cases q : (b < c ∧ ((0 ≤ b ∧ b ≤ 9) ∧ gbit (s.1 400 16) b = 1)) ∧ mF s b = k
          · rw [if_pos q, if_pos ⟨⟨by omega, q.1.2⟩, q.2⟩]
          · rw [if_neg q, if_neg (fun z => q ⟨⟨by omega, z.1.2⟩, z.2⟩)]
      have hr : mranked t c k 0 = gC (mhj s) (mrk s) c k := by rw [mranked_0, ho.hj, ho.rk]
      refine bk_X8_placesOf_58 hX hE t hg half _ dn k now c ⟨rng_of (by omega) (by omega), fun h => by omega, fun _ => ⟨fun h => next2 _ ⟨by omega, hstay (fun z => h (by rw [hs1]; exact z.1))⟩, fun h => ⟨by omega, fun h2 => next2 _ ⟨by omega, hstay (fun z => ?_)⟩, fun h2 => ⟨rng_of (by omega) (by omega), by rw [hr]; exact rng_of (by omega) (by omega), hhr, fun h3 => next2 _ ⟨by omega, hstay (fun z => ?_)⟩, fun h3 => next2 _ ⟨by omega, rng_i _, fun b b0 b1 => ?_⟩⟩⟩⟩⟩
      · rw [hpl c (by omega) (by omega)] at h2
        unfold mpl at h2
        rw [if_neg (fun y => by omega)] at h2
        exact h2 rfl
      · rw [hr] at h3
        have := (mF_eq (s := s) (c := c) hk1 (by omega) (by omega)).mp z.2
        have := (hhalf (gC (mhj s) (mrk s) c k)).mpr this
        omega
      · rw [hr] at h3
        rw [hs1] at h
        have hlt := (hhalf _).mp h3
        have hge : k ≤ mF s c := by
          rw [hpl c (by omega) (by omega)] at h2
          unfold mpl at h2
          rcases Int.lt_or_le (mF s c) k with q | q
          · rw [if_pos ⟨h, q⟩] at h2
            have := mD_bd s (mF s c)
            have := mA_bd s c
            omega
          · exact q
        have heq := (mF_eq (s := s) (c := c) hk1 (by omega) hge).mpr hlt
        rw [gbit_or_shl (by omega) (by omega) b0 b1, hnow.2 b b0 b1]
        by_cases e : b = c
        · subst e
          rw [if_pos rfl, if_pos ⟨⟨by omega, h⟩, heq⟩]
        · rw [if_neg e]
          by_cases q : (b < c ∧ ((0 ≤ b ∧ b ≤ 9) ∧ gbit (s.1 400 16) b = 1)) ∧ mF s b = k
          · rw [if_pos q, if_pos ⟨⟨by omega, q.1.2⟩, q.2⟩]
          · rw [if_neg q, if_neg (fun z => q ⟨⟨by omega, z.1.2⟩, z.2⟩)]
    · intro now ⟨_, hnow⟩
      refine bk_X8_placesOf_58 hX hE t hg half _ dn k now 10 ⟨rng_of (by omega) (by omega), fun _ => ?_, fun h => by omega⟩
      -- places at this rank
      refine gloop (α := gS) (hi := 10) (fun c u => 0 ≤ c ∧ gRg u ∧ moff s u ∧ ∀ b : Int, 0 ≤ b → b < 10 → u.2 421 b = if b < c then mpl s b (k + 1) else mpl s b k) (fun c u => gWL X G u 115 [(0, gR G 400), (1, vi half), (2, vi (gones (s.1 400 16))), (3, vi dn), (4, vi k), (5, vi now), (6, vi c)] []) ?_ ?_ 0 t (by omega) ⟨by omega, hg, ho, fun b b0 b1 => by rw [if_neg (by omega)]; exact hpl b b0 b1⟩
      · intro c u hc ⟨hc0, hgu, hou, hu⟩ next2
        have hb := hnow.2 c hc0 (by omega)
        refine bk_X8_placesOf_115 hX hE u hgu half _ dn k now c ⟨rng_of (by omega) (by omega), fun h => by omega, fun _ => ⟨fun h => ?_, fun h => next2 _ ⟨by omega, hgu, hou, fun b b0 b1 => ?_⟩⟩⟩
        · have hin : (((0 ≤ c ∧ c ≤ 9) ∧ gbit (s.1 400 16) c = 1) ∧ mF s c = k) := by
            by_cases q : (c < 10 ∧ ((0 ≤ c ∧ c ≤ 9) ∧ gbit (s.1 400 16) c = 1)) ∧ mF s c = k
            · exact ⟨q.1.2, q.2⟩
            · rw [if_neg q] at hb; exact absurd hb h
          refine gloop (α := Int) (hi := 10) (fun b ah => 0 ≤ b ∧ ah = gsum (fun b => if (((0 ≤ b ∧ b ≤ 9) ∧ gbit (s.1 400 16) b = 1) ∧ mF s b = mF s c) ∧ mag s b c (mF s c) < 0 then 1 else 0) b) (fun b ah => gWL X G u 141 [(0, gR G 400), (1, vi half), (2, vi (gones (s.1 400 16))), (3, vi dn), (4, vi k), (5, vi now), (6, vi c), (7, vi ah), (8, vi b)] []) ?_ ?_ 0 0 (by omega) ⟨by omega, rfl⟩
          · intro b ah hb10 ⟨hb0, hah⟩ next3
            have hbb := hnow.2 b hb0 (by omega)
            have hag : mag u b c k = mag s b c (mF s c) := by rw [hou.ag, hin.2]
            refine bk_X8_placesOf_141 hX hE u hgu half _ dn k now c ah b ⟨rng_of (by omega) (by omega), fun h => by omega, fun _ => ⟨fun h => next3 _ ⟨by omega, ?_⟩, fun h => ⟨hou.rb p1, by omega, by omega, by omega, mag_rng (hou.rb p1) (by omega) (by omega), fun h2 => next3 _ ⟨by omega, ?_⟩, fun h2 => next3 _ ⟨by omega, ?_⟩⟩⟩⟩
            · rw [gsum_s _ hb0, hah, if_neg (fun z => h (by show gbit now b = 1; rw [hbb, if_pos ⟨⟨hb10, z.1.1⟩, z.1.2.trans hin.2⟩]))]
              omega
            · rw [hag] at h2
              rw [gsum_s _ hb0, hah, if_neg (fun z => by omega)]
              omega
            · rw [hag] at h2
              have h' : gbit now b = 1 := h
              rw [hbb] at h'
              have hq : (b < 10 ∧ ((0 ≤ b ∧ b ≤ 9) ∧ gbit (s.1 400 16) b = 1)) ∧ mF s b = k := by
                by_cases q : (b < 10 ∧ ((0 ≤ b ∧ b ≤ 9) ∧ gbit (s.1 400 16) b = 1)) ∧ mF s b = k
                · exact q
                · rw [if_neg q] at h'; omega
              rw [gsum_s _ hb0, hah, if_pos ⟨⟨hq.1.2, hq.2.trans hin.2.symm⟩, h2⟩]
          · intro ah ⟨_, hah⟩
            have hA := mA_bd s c
            have hah' : ah = mA s c := hah
            have hv : dn + ah + 1 = mpl s c (k + 1) := by
              unfold mpl
              rw [if_pos ⟨hin.1, by omega⟩, hin.2, hdn, hah']
            refine bk_X8_placesOf_141 hX hE u hgu half _ dn k now c ah 10 ⟨rng_of (by omega) (by omega), fun _ => ⟨by omega, rng_of (by omega) (by omega), next2 _ ⟨by omega, gRg_A hgu (rng_of (by omega) (by omega)), hou.put _ _, fun b b0 b1 => ?_⟩⟩, fun h => by omega⟩
            by_cases e : b = c
            · subst e
              rw [gpA_eq, if_pos (by omega), hv]
            · rw [gpA_ni e, hu b b0 b1]
              by_cases q : b < c
              · rw [if_pos q, if_pos (by omega)]
              · rw [if_neg q, if_neg (by omega)]
        · rw [hu b b0 b1]
          by_cases e : b = c
          · subst e
            rw [if_neg (by omega), if_pos (by omega)]
            have hnot : ¬ (((0 ≤ b ∧ b ≤ 9) ∧ gbit (s.1 400 16) b = 1) ∧ mF s b = k) := by
              intro z
              rw [if_pos ⟨⟨hc, z.1⟩, z.2⟩] at hb
              have h' : gbit now b = 0 := h
              omega
            unfold mpl
            by_cases q : ((0 ≤ b ∧ b ≤ 9) ∧ gbit (s.1 400 16) b = 1) ∧ mF s b < k
            · rw [if_pos q, if_pos ⟨q.1, by omega⟩]
            · rw [if_neg q, if_neg (fun z => by
                rcases Int.lt_or_le (mF s b) k with y | y
                · exact q ⟨z.1, y⟩
                · exact hnot ⟨z.1, by omega⟩)]
          · by_cases q : b < c
            · rw [if_pos q, if_pos (by omega)]
            · rw [if_neg q, if_neg (by omega)]
      · intro u ⟨_, hgu, hou, hu⟩
        have hon := mnow_ones hnow
        refine bk_X8_placesOf_115 hX hE u hgu half _ dn k now 10 ⟨rng_of (by omega) (by omega), fun _ => next (u, dn + gones now) ⟨by omega, hgu, hou, ?_, fun c c0 c1 => ?_⟩, fun h => by omega⟩
        · show dn + gones now = mD s (k + 1)
          rw [mD_s, hon, hdn]
        · show u.2 421 c = _
          rw [hu c c0 c1, if_pos c1]
  · intro ⟨t, dn⟩ ⟨hk1, hg, ho, hdn, hpl⟩
    dsimp only at hg ho hdn hpl ⊢
    exact bk_X8_placesOf_46 hX hE t hg half _ dn _ ⟨rng_of (by omega) (by omega), rng_of (by omega) (by omega), fun _ => ⟨ho, hpl⟩, fun h => by omega⟩
  · unfold mD
    show (0 : Int) = _
    rw [gsum_tail (m := 0) (by omega) (by omega) (fun i _ _ => by
      have := mF_bd s i
      rw [if_neg (fun z => by omega)])]
    rfl
  · show t.2 421 c = _
    rw [hz c c0 c1]
    have := mF_bd s c
    unfold mpl
    rw [if_neg (fun z => by omega)]
def mplaceQ (s : gS) (c v : Int) (s' : gS) : Prop := if ((0 ≤ c ∧ c ≤ 9) ∧ gbit (s.1 400 16) c = 1) ∧ ¬ gJ (mhj s) = 0 then v = mpl s c (gones (s.1 400 16) + 1) ∧ moff s s' else v = -1 ∧ s' = s
set_option maxRecDepth 100000 in
set_option maxHeartbeats 4000000 in
theorem bk_X8_place__0 {X : gX} {G : gG} (hX : gOk X G cX8_place_ 2 RX8 (some .int) 5) {Q : Int → gS → Prop} (hE : gEnd X G (gPi (fun v s' => Q v s' ∧ gRg s'))) (s : gS) (hs : gRg s) (x1 : Int)  (h : (rng x1) ∧ ((¬ ((0 ≤ x1 ∧ x1 ≤ 9) ∧ gbit (s.1 400 16) x1 = 1) → Q (-1) s) ∧ ((0 ≤ x1 ∧ x1 ≤ 9) ∧ gbit (s.1 400 16) x1 = 1 → (rng (gJ (mhj s))) ∧ ((¬ (gJ (mhj s)) = 0 → (mRk s) ∧ (0 ≤ (s.1 400 16) ∧ (s.1 400 16) < 1024) ∧ (∀ s9 : gS, ((mplaced s s9) ∧ gRg s9) → (0 ≤ x1 ∧ x1 < 10) ∧ Q (s9.2 421 x1) s9)) ∧ ((gJ (mhj s)) = 0 → Q (-1) s))))) : gWL X G s 0 [(0, gR G 400), (1, vi x1)] [] := by
  refine g_aload_n hX dX8_place__0 0 rfl ?_
  refine g_iload_n hX dX8_place__1 1 rfl ?_
  obtain ⟨h1, h⟩ := h
  refine g_cVf (As := [vi x1]) hX (fun l => c_X8_sings l hX.inj s x1 hs h1) sh_400 cv_X8_160 (by decide) rfl (Nat.le_of_ble_eq_true rfl) dX8_place__2 rfl (fun g2 => ?_)
  refine g_ifeq (tgt := 15) hX (gb_rng _) dX8_place__5 (by decide) (fun c3 => ?_) (fun c3 => ?_)
  · replace h := h.1 (gb_eq0.mp c3)
    refine g_iconst hX dX8_place__15 ?_
    exact g_iret hX hE dX8_place__16 ⟨h, hs⟩
  · replace h := h.2 (gb_n0.mp c3)
    refine g_aload_n hX dX8_place__8 0 rfl ?_
    refine g_cVf (As := []) hX (fun l => c_X8_judges l hX.inj s  hs) sh_400 cv_X8_156 (by decide) rfl (Nat.le_of_ble_eq_true rfl) dX8_place__9 rfl (fun g4 => ?_)
    obtain ⟨h5, h⟩ := h
    refine g_ifne (tgt := 17) hX h5 dX8_place__12 (by decide) (fun c6 => ?_) (fun c6 => ?_)
    · replace h := h.1 c6
      refine g_aload_n hX dX8_place__17 0 rfl ?_
      obtain ⟨h7, h⟩ := h
      obtain ⟨h8, h⟩ := h
      refine g_cVu (As := []) hX (fun l => c_X8_placesOf l hX.inj s  hs h7 h8) sh_400 cv_X8_166 (by decide) rfl (Nat.le_of_ble_eq_true rfl) dX8_place__18 rfl (fun s9 q10 => ?_)
      replace h := h s9 q10
      have rs9 : gRg s9 := q10.2
      refine g_aload_n hX dX8_place__21 0 rfl ?_
      refine g_getR hX sh_400 20 rfl fl_X8_69 dX8_place__22 ?_
      refine g_iload_n hX dX8_place__25 1 rfl ?_
      obtain ⟨h11, h⟩ := h
      refine g_iald hX sh_421 h11 (by decide) dX8_place__26 ?_
      exact g_iret hX hE dX8_place__27 ⟨h, rs9⟩
    · replace h := h.2 (gnn c6)
      refine g_iconst hX dX8_place__15 ?_
      exact g_iret hX hE dX8_place__16 ⟨h, hs⟩
set_option maxRecDepth 100000 in
set_option maxHeartbeats 4000000 in
theorem c_X8_place_ (l : Launch) {G : gG} (hG : gInj G) (s : gS) (x1 : Int) (p0 : gRg s) (p1 : rng x1) (p2 : mRk s) (p3 : 0 ≤ (s.1 400 16) ∧ (s.1 400 16) < 1024) : gMet l G yX8_place_ cX8_place_ 2 (some .int) 5 [gR G 400, vi x1] s (gPi (fun v s' => (mplaceQ s x1 v s') ∧ gRg s')) := by
  refine gMet_of (plainFor_of_name (by decide)) hG (Nat.le_of_ble_eq_true rfl) (fun X hX hE => ?_)
  refine bk_X8_place__0 hX hE s p0 x1  ?_
  have hJ := gJ_bd (mhj s)
  unfold mplaceQ
  refine ⟨p1, fun a => ?_, fun a => ⟨rng_of (by omega) (by omega), fun b => ⟨p2, p3, fun s9 hq => ⟨by omega, ?_⟩⟩, fun b => ?_⟩⟩
  · rw [if_neg (fun z => a z.1)]; exact ⟨rfl, rfl⟩
  · rw [if_pos ⟨a, b⟩]
    exact ⟨hq.1.2 x1 (by omega) (by omega), hq.1.1⟩
  · rw [if_neg (fun z => z.2 b)]; exact ⟨rfl, rfl⟩

