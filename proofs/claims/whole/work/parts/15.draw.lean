theorem fl_X7_58 : gFL RX7 58 7 7 := ⟨RX7, TX7, 8, tyX7, rfl, by decide, inG_X7, (gm_1 229 rfl rfl), tyX7_ok, nmX7, fun h => absurd h (by decide)⟩
theorem fl_X8_99 : gFL RX8 99 8 33 := ⟨RX8, TX8, 34, tyX8, rfl, by decide, inG_X8, (gm_3 71 rfl rfl), tyX8_ok, nmX8, fun h => absurd h (by decide)⟩
theorem cv_X7_169 : gCV RX7 169 yX7_drawOrder cX7_drawOrder 7 none 2 7 := ⟨TX7, 8, rfl, (gm_3 27 rfl rfl), (gm_3 29 rfl rfl), (gm_s 16 rfl rfl), (gm_1 1 rfl rfl), (gm_3 30 rfl rfl), ⟨by decide, by decide, by decide +kernel⟩, by decide⟩
theorem ldc_X7_183 : Cond.constant RX7 183 (1103515245) ∈ gAll := (gm_3 31 rfl rfl)
theorem ldc_X8_187 : Cond.constant RX8 187 (1103515245) ∈ gAll := (gm_4 63 rfl rfl)
/-! ===== drawn orders ===== -/
def gdst (n : Int) (m : Int) (a : (Int → Int) × Int) : (Int → Int) × Int :=
  (fun j => if j = (gushr ((1103515245 * a.2) + 12345) 8).tmod (n - 1 - m + 1) then a.1 (n - 1 - m) else if j = n - 1 - m then a.1 ((gushr ((1103515245 * a.2) + 12345) 8).tmod (n - 1 - m + 1)) else a.1 j, (1103515245 * a.2) + 12345)
def gdit (n g m : Int) : (Int → Int) × Int := giter (gdst n) (fun j => j, g) m
/-- t is s, but the row k holds the order of n drawn from g -/
def gdrawn (s t : gS) (k n g : Int) : Prop := t.1 = s.1 ∧ (∀ k' : Int, k' ≠ k → t.2 k' = s.2 k') ∧ ∀ i : Int, 0 ≤ i → i < n → t.2 k i = (gdit n g (n - 1)).1 i
theorem gushr8 (a : Int) : 0 ≤ gushr a 8 := by
  unfold gushr
  have e : ((Int32.ofInt 8).toUInt32 &&& Int32.toUInt32 31) = 8 := by decide
  rw [e]
  generalize (Int32.ofInt a).toUInt32 = x
  have h : (x >>> 8).toNat < 2 ^ 24 := by
    rw [UInt32.toNat_shiftRight, show (8 : UInt32).toNat % 32 = 8 from rfl, Nat.shiftRight_eq_div_pow]
    have := x.toNat_lt
    omega
  have e2 : (x >>> 8).toInt32.toInt = ((x >>> 8).toNat : Int) := by
    show (x >>> 8).toBitVec.toInt = _
    rw [BitVec.toInt_eq_toNat_of_lt (by show 2 * (x >>> 8).toNat < _; omega)]
    rfl
  rw [e2]
  omega
theorem gdq {g i : Int} (h : 0 ≤ i) : 0 ≤ (gushr g 8).tmod (i + 1) ∧ (gushr g 8).tmod (i + 1) < i + 1 := ⟨Int.tmod_nonneg _ (gushr8 g), Int.tmod_lt_of_pos _ (by omega)⟩
def gswap (s : gS) (k i q : Int) : gS := gpA (gpA s k i (s.2 k q)) k q (s.2 k i)
theorem gswap_at (s : gS) (k i q j : Int) : (gswap s k i q).2 k j = if j = q then s.2 k i else if j = i then s.2 k q else s.2 k j := by
  unfold gswap
  by_cases h : j = q
  · subst h; rw [gpA_eq, if_pos rfl]
  · rw [gpA_ni h, if_neg h]
    by_cases h2 : j = i
    · subst h2; rw [gpA_eq, if_pos rfl]
    · rw [gpA_ni h2, if_neg h2]
theorem gswap_off (s : gS) (k i q k' : Int) (h : k' ≠ k) : (gswap s k i q).2 k' = s.2 k' := by
  funext j
  unfold gswap
  rw [gpA_nk h, gpA_nk h]
theorem gswap_rg {s : gS} {k i q : Int} (h : gRg s) : gRg (gswap s k i q) := gRg_A (gRg_A h (h.2 _ _)) (h.2 _ _)
theorem gdstep {s : gS} {k n g x i : Int} (hi : 0 < i) (hin : i < n) (hA : ∀ j : Int, 0 ≤ j → j < n → s.2 k j = (gdit n g (n - 1 - i)).1 j) (hx : x = (gdit n g (n - 1 - i)).2) :
    (∀ j : Int, 0 ≤ j → j < n → (gswap s k i ((gushr ((1103515245 * x) + 12345) 8).tmod (i + 1))).2 k j = (gdit n g (n - 1 - (i - 1))).1 j) ∧ (1103515245 * x) + 12345 = (gdit n g (n - 1 - (i - 1))).2 := by
  have e : gdit n g (n - 1 - (i - 1)) = gdst n (n - 1 - i) (gdit n g (n - 1 - i)) := by
    unfold gdit
    rw [show n - 1 - (i - 1) = (n - 1 - i) + 1 by omega, giter_s _ _ (by omega)]
  have e2 : n - 1 - (n - 1 - i) = i := by omega
  have hq := gdq (g := (1103515245 * x) + 12345) (i := i) (by omega)
  rw [e]
  unfold gdst
  rw [e2, ← hx]
  refine ⟨fun j h0 h1 => ?_, rfl⟩
  rw [gswap_at, hA i (by omega) hin, hA _ hq.1 (by omega)]
  dsimp only
  by_cases h : j = (gushr ((1103515245 * x) + 12345) 8).tmod (i + 1)
  · rw [if_pos h, if_pos h]
  · rw [if_neg h, if_neg h, hA j h0 h1]
set_option maxRecDepth 100000 in
set_option maxHeartbeats 4000000 in
theorem bk_X7_drawOrder_0 {X : gX} {G : gG} (hX : gOk X G cX7_drawOrder 7 RX7 none 1) {Q : gS → Prop} (hE : gEnd X G (gPv (fun s' => Q s' ∧ gRg s'))) (s : gS) (hs : gRg s) (x1 : Int) (x2 : Int)  (h : gWL X G s 2 [(0, gR G 0), (1, vi x1), (2, vi x2), (3, vi 0)] []) : gWL X G s 0 [(0, gR G 0), (1, vi x1), (2, vi x2)] [] := by
  refine g_iconst hX dX7_drawOrder_0 ?_
  refine g_istore_n (loc' := [(3, vi 0), (0, gR G 0), (1, vi x1), (2, vi x2)]) hX dX7_drawOrder_1 (by decide) rfl ?_
  exact g_sub [1, 2, 3, 0] rfl h
set_option maxRecDepth 100000 in
set_option maxHeartbeats 4000000 in
theorem bk_X7_drawOrder_2 {X : gX} {G : gG} (hX : gOk X G cX7_drawOrder 7 RX7 none 1) {Q : gS → Prop} (hE : gEnd X G (gPv (fun s' => Q s' ∧ gRg s'))) (s : gS) (hs : gRg s) (x1 : Int) (x2 : Int) (x3 : Int)  (h : (rng x3) ∧ (rng x1) ∧ ((x1 ≤ x3 → gWL X G s 27 [(0, gR G 0), (3, vi x2), (4, vi (x1 - 1))] []) ∧ (x3 < x1 → (0 ≤ x3 ∧ x3 < 12) ∧ gWL X G (gpA s 8 x3 x3) 2 [(0, gR G 0), (1, vi x1), (2, vi x2), (3, vi (x3 + 1))] []))) : gWL X G s 2 [(0, gR G 0), (1, vi x1), (2, vi x2), (3, vi x3)] [] := by
  refine g_iload_n hX dX7_drawOrder_2 3 rfl ?_
  refine g_iload_n hX dX7_drawOrder_3 1 rfl ?_
  obtain ⟨h1, h⟩ := h
  obtain ⟨h2, h⟩ := h
  refine g_icge (tgt := 20) hX h1 h2 dX7_drawOrder_4 (by decide) (fun c3 => ?_) (fun c3 => ?_)
  · replace h := h.1 c3
    refine g_iload_n hX dX7_drawOrder_20 2 rfl ?_
    refine g_istore_n (loc' := [(3, vi x2), (0, gR G 0), (1, vi x1), (2, vi x2)]) hX dX7_drawOrder_21 (by decide) rfl ?_
    refine g_iload_n hX dX7_drawOrder_22 2 rfl ?_
    refine g_iconst hX dX7_drawOrder_23 ?_
    refine g_isub hX dX7_drawOrder_24 ?_
    refine g_istore (loc' := [(4, vi (x1 - 1)), (3, vi x2), (0, gR G 0), (1, vi x1), (2, vi x2)]) hX dX7_drawOrder_25 (by decide) rfl ?_
    exact g_sub [2, 1, 0] rfl h
  · replace h := h.2 (Int.not_le.mp c3)
    refine g_aload_n hX dX7_drawOrder_7 0 rfl ?_
    refine g_getR hX sh_0 7 rfl fl_X7_58 dX7_drawOrder_8 ?_
    refine g_iload_n hX dX7_drawOrder_11 3 rfl ?_
    refine g_iload_n hX dX7_drawOrder_12 3 rfl ?_
    obtain ⟨h4, h⟩ := h
    refine g_iast hX sh_8 h4 (by decide) dX7_drawOrder_13 ?_
    refine g_iinc (loc' := [(3, vi (x3 + 1)), (0, gR G 0), (1, vi x1), (2, vi x2)]) hX dX7_drawOrder_14 3 rfl (by decide) rfl ?_
    refine g_goto (tgt := 2) hX dX7_drawOrder_17 (by decide) ?_
    exact g_sub [1, 2, 3, 0] rfl h
set_option maxRecDepth 100000 in
set_option maxHeartbeats 4000000 in
theorem bk_X7_drawOrder_27 {X : gX} {G : gG} (hX : gOk X G cX7_drawOrder 7 RX7 none 1) {Q : gS → Prop} (hE : gEnd X G (gPv (fun s' => Q s' ∧ gRg s'))) (s : gS) (hs : gRg s) (x3 : Int) (x4 : Int)  (h : (rng x4) ∧ ((x4 < 1 → Q s) ∧ (1 ≤ x4 → (rng (x4 + 1)) ∧ (0 < (x4 + 1)) ∧ (0 ≤ x4 ∧ x4 < 12) ∧ (0 ≤ ((gushr ((1103515245 * x3) + 12345) 8).tmod (x4 + 1)) ∧ ((gushr ((1103515245 * x3) + 12345) 8).tmod (x4 + 1)) < 12) ∧ gWL X G (gpA (gpA s 8 x4 (s.2 8 ((gushr ((1103515245 * x3) + 12345) 8).tmod (x4 + 1)))) 8 ((gushr ((1103515245 * x3) + 12345) 8).tmod (x4 + 1)) (s.2 8 x4)) 27 [(0, gR G 0), (3, vi ((1103515245 * x3) + 12345)), (4, vi (x4 - 1))] []))) : gWL X G s 27 [(0, gR G 0), (3, vi x3), (4, vi x4)] [] := by
  refine g_iload hX dX7_drawOrder_27 2 rfl ?_
  refine g_iconst hX dX7_drawOrder_29 ?_
  obtain ⟨h1, h⟩ := h
  refine g_iclt (tgt := 91) hX h1 (by unfold rng; omega) dX7_drawOrder_30 (by decide) (fun c2 => ?_) (fun c2 => ?_)
  · replace h := h.1 c2
    exact g_vret hX hE dX7_drawOrder_91 ⟨h, hs⟩
  · replace h := h.2 (Int.not_lt.mp c2)
    refine g_ldc (n := 1103515245) hX ldc_X7_183 dX7_drawOrder_33 rfl ?_
    refine g_iload_n hX dX7_drawOrder_35 1 rfl ?_
    refine g_imul hX dX7_drawOrder_36 ?_
    refine g_sipush hX dX7_drawOrder_37 rfl ?_
    refine g_iadd hX dX7_drawOrder_40 ?_
    refine g_istore_n (loc' := [(3, vi ((1103515245 * x3) + 12345)), (0, gR G 0), (4, vi x4)]) hX dX7_drawOrder_41 (by decide) rfl ?_
    refine g_iload_n hX dX7_drawOrder_42 0 rfl ?_
    refine g_bipush hX dX7_drawOrder_43 rfl ?_
    refine g_iushr hX dX7_drawOrder_45 ?_
    refine g_iload hX dX7_drawOrder_46 2 rfl ?_
    refine g_iconst hX dX7_drawOrder_48 ?_
    refine g_iadd hX dX7_drawOrder_49 ?_
    obtain ⟨h3, h⟩ := h
    obtain ⟨h4, h⟩ := h
    refine g_irem hX (rng_i _) h3 h4 dX7_drawOrder_50 ?_
    refine g_istore (loc' := [(5, vi ((gushr ((1103515245 * x3) + 12345) 8).tmod (x4 + 1))), (3, vi ((1103515245 * x3) + 12345)), (0, gR G 0), (4, vi x4)]) hX dX7_drawOrder_51 (by decide) rfl ?_
    refine g_aload_n hX dX7_drawOrder_53 2 rfl ?_
    refine g_getR hX sh_0 7 rfl fl_X7_58 dX7_drawOrder_54 ?_
    refine g_iload hX dX7_drawOrder_57 3 rfl ?_
    obtain ⟨h5, h⟩ := h
    refine g_iald hX sh_8 h5 (by decide) dX7_drawOrder_59 ?_
    refine g_istore (loc' := [(6, vi (s.2 8 x4)), (5, vi ((gushr ((1103515245 * x3) + 12345) 8).tmod (x4 + 1))), (3, vi ((1103515245 * x3) + 12345)), (0, gR G 0), (4, vi x4)]) hX dX7_drawOrder_60 (by decide) rfl ?_
    refine g_aload_n hX dX7_drawOrder_62 3 rfl ?_
    refine g_getR hX sh_0 7 rfl fl_X7_58 dX7_drawOrder_63 ?_
    refine g_iload hX dX7_drawOrder_66 4 rfl ?_
    refine g_aload_n hX dX7_drawOrder_68 3 rfl ?_
    refine g_getR hX sh_0 7 rfl fl_X7_58 dX7_drawOrder_69 ?_
    refine g_iload hX dX7_drawOrder_72 1 rfl ?_
    obtain ⟨h6, h⟩ := h
    refine g_iald hX sh_8 h6 (by decide) dX7_drawOrder_74 ?_
    refine g_iast hX sh_8 h5 (by decide) dX7_drawOrder_75 ?_
    refine g_aload_n hX dX7_drawOrder_76 3 rfl ?_
    refine g_getR hX sh_0 7 rfl fl_X7_58 dX7_drawOrder_77 ?_
    refine g_iload hX dX7_drawOrder_80 1 rfl ?_
    refine g_iload hX dX7_drawOrder_82 0 rfl ?_
    refine g_iast hX sh_8 h6 (by decide) dX7_drawOrder_84 ?_
    refine g_iinc (loc' := [(4, vi (x4 - 1)), (6, vi (s.2 8 x4)), (5, vi ((gushr ((1103515245 * x3) + 12345) 8).tmod (x4 + 1))), (3, vi ((1103515245 * x3) + 12345)), (0, gR G 0)]) hX dX7_drawOrder_85 4 rfl (by decide) rfl ?_
    refine g_goto (tgt := 27) hX dX7_drawOrder_88 (by decide) ?_
    exact g_sub [4, 3, 0] rfl h
set_option maxRecDepth 100000 in
set_option maxHeartbeats 4000000 in
theorem c_X7_drawOrder (l : Launch) {G : gG} (hG : gInj G) (s : gS) (x1 : Int) (x2 : Int) (p0 : gRg s) (p1 : 1 ≤ x1 ∧ x1 ≤ 12) : gMet l G yX7_drawOrder cX7_drawOrder 7 none 1 [gR G 0, vi x1, vi x2] s (gPv (fun s' => (gdrawn s s' 8 x1 x2) ∧ gRg s')) := by
  refine gMet_of (plainFor_of_name (by decide)) hG (Nat.le_of_ble_eq_true rfl) (fun X hX hE => ?_)
  refine bk_X7_drawOrder_0 hX hE s p0 x1 x2  ?_
  have r1 : rng x1 := rng_of (by omega) (by omega)
  refine gloop (α := gS) (hi := x1) (fun i t => 0 ≤ i ∧ gRg t ∧ t.1 = s.1 ∧ (∀ k' : Int, k' ≠ 8 → t.2 k' = s.2 k') ∧ ∀ j : Int, 0 ≤ j → j < i → t.2 8 j = j) (fun i t => gWL X G t 2 [(0, gR G 0), (1, vi x1), (2, vi x2), (3, vi i)] []) ?_ ?_ 0 s (by omega) ⟨by omega, p0, rfl, fun _ _ => rfl, fun j h0 h1 => by omega⟩
  · intro i t hi ⟨h0, hg, h1, h2, h3⟩ next
    refine bk_X7_drawOrder_2 hX hE t hg x1 x2 i ⟨rng_of (by omega) (by omega), r1, fun h => by omega, fun _ => ⟨by omega, next _ ⟨by omega, gRg_A hg (rng_of (by omega) (by omega)), h1, fun k' hk => ?_, fun j j0 j1 => ?_⟩⟩⟩
    · rw [← h2 k' hk]; funext j; exact gpA_nk hk
    · by_cases e : j = i
      · subst e; exact gpA_eq
      · rw [gpA_ni e]; exact h3 j j0 (by omega)
  intro t ⟨h0, hg, h1, h2, h3⟩
  refine bk_X7_drawOrder_2 hX hE t hg x1 x2 x1 ⟨r1, r1, fun _ => ?_, fun h => by omega⟩
  refine gloopD (α := gS × Int) (lo := 0) (fun i a => i < x1 ∧ gRg a.1 ∧ a.1.1 = s.1 ∧ (∀ k' : Int, k' ≠ 8 → a.1.2 k' = s.2 k') ∧ (∀ j : Int, 0 ≤ j → j < x1 → a.1.2 8 j = (gdit x1 x2 (x1 - 1 - i)).1 j) ∧ a.2 = (gdit x1 x2 (x1 - 1 - i)).2) (fun i a => gWL X G a.1 27 [(0, gR G 0), (3, vi a.2), (4, vi i)] []) ?_ ?_ (x1 - 1) (t, x2) (by omega) ⟨by omega, hg, h1, h2, fun j j0 j1 => by rw [show x1 - 1 - (x1 - 1) = 0 by omega]; exact h3 j j0 j1, by rw [show x1 - 1 - (x1 - 1) = 0 by omega]; rfl⟩
  · intro i ⟨t, x⟩ hi ⟨hin, hg, h1, h2, hA, hx⟩ next
    dsimp only at hg h1 h2 hA hx ⊢
    have hq := gdq (g := (1103515245 * x) + 12345) (i := i) (by omega)
    have hst := gdstep hi hin hA hx
    refine bk_X7_drawOrder_27 hX hE t hg x i ⟨rng_of (by omega) (by omega), fun h => by omega, fun _ => ⟨rng_of (by omega) (by omega), by omega, by omega, by omega, ?_⟩⟩
    exact next (gswap t 8 i ((gushr ((1103515245 * x) + 12345) 8).tmod (i + 1)), (1103515245 * x) + 12345) ⟨by omega, gswap_rg hg, h1, fun k' hk => (gswap_off t 8 i _ k' hk).trans (h2 k' hk), hst.1, hst.2⟩
  · intro ⟨t, x⟩ ⟨hin, hg, h1, h2, hA, hx⟩
    dsimp only at hg h1 h2 hA hx ⊢
    refine bk_X7_drawOrder_27 hX hE t hg x 0 ⟨rng_of (by omega) (by omega), fun _ => ⟨h1, h2, fun j j0 j1 => ?_⟩, fun h => by omega⟩
    rw [hA j j0 j1, show x1 - 1 - 0 = x1 - 1 by omega]
set_option maxRecDepth 100000 in
set_option maxHeartbeats 4000000 in
theorem bk_X7_draw_0 {X : gX} {G : gG} (hX : gOk X G cX7_draw 4 RX7 (some .int) 2) {Q : Int → gS → Prop} (hE : gEnd X G (gPi (fun v s' => Q v s' ∧ gRg s'))) (s : gS) (hs : gRg s) (x1 : Int) (x2 : Int) (x3 : Int)  (h : (rng x1) ∧ ((¬ (1 ≤ x1 ∧ x1 ≤ 12) → Q (-1) s) ∧ (1 ≤ x1 ∧ x1 ≤ 12 → (rng x3) ∧ (rng (x1 - 1)) ∧ ((0 ≤ x3 ∧ x3 ≤ (x1 - 1) → (1 ≤ x1 ∧ x1 ≤ 12) ∧ (∀ s9 : gS, ((gdrawn s s9 8 x1 x2) ∧ gRg s9) → (0 ≤ x3 ∧ x3 < 12) ∧ Q (s9.2 8 x3) s9)) ∧ (¬ (0 ≤ x3 ∧ x3 ≤ (x1 - 1)) → Q (-1) s))))) : gWL X G s 0 [(0, gR G 0), (1, vi x1), (2, vi x2), (3, vi x3)] [] := by
  refine g_iload_n hX dX7_draw_0 1 rfl ?_
  refine g_iconst hX dX7_draw_1 ?_
  refine g_bipush hX dX7_draw_2 rfl ?_
  obtain ⟨h1, h⟩ := h
  refine g_cSf (As := [vi x1, vi 1, vi 12]) hX (fun l => c_X7_isWithin l hX.inj s x1 1 12 hs h1 (by unfold rng; omega) (by unfold rng; omega)) cv_X7_62 (by decide) rfl (Nat.le_of_ble_eq_true rfl) dX7_draw_4 rfl (fun g2 => ?_)
  refine g_ifeq (tgt := 21) hX (gb_rng _) dX7_draw_7 (by decide) (fun c3 => ?_) (fun c3 => ?_)
  · replace h := h.1 (gb_eq0.mp c3)
    refine g_iconst hX dX7_draw_21 ?_
    exact g_iret hX hE dX7_draw_22 ⟨h, hs⟩
  · replace h := h.2 (gb_n0.mp c3)
    refine g_iload_n hX dX7_draw_10 3 rfl ?_
    refine g_iconst hX dX7_draw_11 ?_
    refine g_iload_n hX dX7_draw_12 1 rfl ?_
    refine g_iconst hX dX7_draw_13 ?_
    refine g_isub hX dX7_draw_14 ?_
    obtain ⟨h4, h⟩ := h
    obtain ⟨h5, h⟩ := h
    refine g_cSf (As := [vi x3, vi 0, vi (x1 - 1)]) hX (fun l => c_X7_isWithin l hX.inj s x3 0 (x1 - 1) hs h4 (by unfold rng; omega) h5) cv_X7_62 (by decide) rfl (Nat.le_of_ble_eq_true rfl) dX7_draw_15 rfl (fun g6 => ?_)
    refine g_ifne (tgt := 23) hX (gb_rng _) dX7_draw_18 (by decide) (fun c7 => ?_) (fun c7 => ?_)
    · replace h := h.1 (gb_n0.mp c7)
      refine g_aload_n hX dX7_draw_23 0 rfl ?_
      refine g_iload_n hX dX7_draw_24 1 rfl ?_
      refine g_iload_n hX dX7_draw_25 2 rfl ?_
      obtain ⟨h8, h⟩ := h
      refine g_cVu (As := [vi x1, vi x2]) hX (fun l => c_X7_drawOrder l hX.inj s x1 x2 hs h8) sh_0 cv_X7_169 (by decide) rfl (Nat.le_of_ble_eq_true rfl) dX7_draw_26 rfl (fun s9 q10 => ?_)
      replace h := h s9 q10
      have rs9 : gRg s9 := q10.2
      refine g_aload_n hX dX7_draw_29 0 rfl ?_
      refine g_getR hX sh_0 7 rfl fl_X7_58 dX7_draw_30 ?_
      refine g_iload_n hX dX7_draw_33 3 rfl ?_
      obtain ⟨h11, h⟩ := h
      refine g_iald hX sh_8 h11 (by decide) dX7_draw_34 ?_
      exact g_iret hX hE dX7_draw_35 ⟨h, rs9⟩
    · replace h := h.2 (gb_eq0.mp (gnn c7))
      refine g_iconst hX dX7_draw_21 ?_
      exact g_iret hX hE dX7_draw_22 ⟨h, hs⟩
set_option maxRecDepth 100000 in
set_option maxHeartbeats 4000000 in
theorem c_X7_draw (l : Launch) {G : gG} (hG : gInj G) (s : gS) (x1 : Int) (x2 : Int) (x3 : Int) (p0 : gRg s) (p1 : rng x1) (p2 : rng x3) : gMet l G yX7_draw cX7_draw 4 (some .int) 2 [gR G 0, vi x1, vi x2, vi x3] s (gPi (fun v s' => (if (1 ≤ x1 ∧ x1 ≤ 12) ∧ (0 ≤ x3 ∧ x3 ≤ x1 - 1) then v = s'.2 8 x3 ∧ gdrawn s s' 8 x1 x2 else v = -1 ∧ s' = s) ∧ gRg s')) := by
  refine gMet_of (plainFor_of_name (by decide)) hG (Nat.le_of_ble_eq_true rfl) (fun X hX hE => ?_)
  refine bk_X7_draw_0 hX hE s p0 x1 x2 x3  ?_
  refine ⟨p1, fun a => by rw [if_neg (fun z => a z.1)]; exact ⟨rfl, rfl⟩, fun a => ⟨p2, rng_of (by omega) (by omega), fun b => ⟨a, fun s9 hq => ⟨by omega, ?_⟩⟩, fun b => by rw [if_neg (fun z => b z.2)]; exact ⟨rfl, rfl⟩⟩⟩
  rw [if_pos ⟨a, b⟩]
  exact ⟨rfl, hq.1⟩
set_option maxRecDepth 100000 in
set_option maxHeartbeats 4000000 in
theorem bk_X8_draw_0 {X : gX} {G : gG} (hX : gOk X G cX8_draw 8 RX8 (some .int) 2) {Q : Int → gS → Prop} (hE : gEnd X G (gPi (fun v s' => Q v s' ∧ gRg s'))) (s : gS) (hs : gRg s) (x1 : Int) (x2 : Int) (x3 : Int)  (h : (rng x1) ∧ ((¬ (1 ≤ x1 ∧ x1 ≤ 12) → Q (-1) s) ∧ (1 ≤ x1 ∧ x1 ≤ 12 → (rng x3) ∧ (rng (x1 - 1)) ∧ ((0 ≤ x3 ∧ x3 ≤ (x1 - 1) → gWL X G s 26 [(0, gR G 400), (1, vi x1), (2, vi x2), (3, vi x3), (4, vi 0)] []) ∧ (¬ (0 ≤ x3 ∧ x3 ≤ (x1 - 1)) → Q (-1) s))))) : gWL X G s 0 [(0, gR G 400), (1, vi x1), (2, vi x2), (3, vi x3)] [] := by
  refine g_iload_n hX dX8_draw_0 1 rfl ?_
  refine g_iconst hX dX8_draw_1 ?_
  refine g_bipush hX dX8_draw_2 rfl ?_
  obtain ⟨h1, h⟩ := h
  refine g_cSf (As := [vi x1, vi 1, vi 12]) hX (fun l => c_X8_isIn l hX.inj s x1 1 12 hs h1 (by unfold rng; omega) (by unfold rng; omega)) cv_X8_102 (by decide) rfl (Nat.le_of_ble_eq_true rfl) dX8_draw_4 rfl (fun g2 => ?_)
  refine g_ifeq (tgt := 21) hX (gb_rng _) dX8_draw_7 (by decide) (fun c3 => ?_) (fun c3 => ?_)
  · replace h := h.1 (gb_eq0.mp c3)
    refine g_iconst hX dX8_draw_21 ?_
    exact g_iret hX hE dX8_draw_22 ⟨h, hs⟩
  · replace h := h.2 (gb_n0.mp c3)
    refine g_iload_n hX dX8_draw_10 3 rfl ?_
    refine g_iconst hX dX8_draw_11 ?_
    refine g_iload_n hX dX8_draw_12 1 rfl ?_
    refine g_iconst hX dX8_draw_13 ?_
    refine g_isub hX dX8_draw_14 ?_
    obtain ⟨h4, h⟩ := h
    obtain ⟨h5, h⟩ := h
    refine g_cSf (As := [vi x3, vi 0, vi (x1 - 1)]) hX (fun l => c_X8_isIn l hX.inj s x3 0 (x1 - 1) hs h4 (by unfold rng; omega) h5) cv_X8_102 (by decide) rfl (Nat.le_of_ble_eq_true rfl) dX8_draw_15 rfl (fun g6 => ?_)
    refine g_ifne (tgt := 23) hX (gb_rng _) dX8_draw_18 (by decide) (fun c7 => ?_) (fun c7 => ?_)
    · replace h := h.1 (gb_n0.mp c7)
      refine g_iconst hX dX8_draw_23 ?_
      refine g_istore (loc' := [(4, vi 0), (0, gR G 400), (1, vi x1), (2, vi x2), (3, vi x3)]) hX dX8_draw_24 (by decide) rfl ?_
      exact g_sub [1, 2, 3, 4, 0] rfl h
    · replace h := h.2 (gb_eq0.mp (gnn c7))
      refine g_iconst hX dX8_draw_21 ?_
      exact g_iret hX hE dX8_draw_22 ⟨h, hs⟩
set_option maxRecDepth 100000 in
set_option maxHeartbeats 4000000 in
theorem bk_X8_draw_26 {X : gX} {G : gG} (hX : gOk X G cX8_draw 8 RX8 (some .int) 2) {Q : Int → gS → Prop} (hE : gEnd X G (gPi (fun v s' => Q v s' ∧ gRg s'))) (s : gS) (hs : gRg s) (x1 : Int) (x2 : Int) (x3 : Int) (x4 : Int)  (h : (rng x4) ∧ (rng x1) ∧ ((x1 ≤ x4 → gWL X G s 55 [(0, gR G 400), (3, vi x3), (4, vi x2), (5, vi (x1 - 1))] []) ∧ (x4 < x1 → (0 ≤ x4 ∧ x4 < 12) ∧ gWL X G (gpA s 434 x4 x4) 26 [(0, gR G 400), (1, vi x1), (2, vi x2), (3, vi x3), (4, vi (x4 + 1))] []))) : gWL X G s 26 [(0, gR G 400), (1, vi x1), (2, vi x2), (3, vi x3), (4, vi x4)] [] := by
  refine g_iload hX dX8_draw_26 4 rfl ?_
  refine g_iload_n hX dX8_draw_28 1 rfl ?_
  obtain ⟨h1, h⟩ := h
  obtain ⟨h2, h⟩ := h
  refine g_icge (tgt := 47) hX h1 h2 dX8_draw_29 (by decide) (fun c3 => ?_) (fun c3 => ?_)
  · replace h := h.1 c3
    refine g_iload_n hX dX8_draw_47 2 rfl ?_
    refine g_istore (loc' := [(4, vi x2), (0, gR G 400), (1, vi x1), (2, vi x2), (3, vi x3)]) hX dX8_draw_48 (by decide) rfl ?_
    refine g_iload_n hX dX8_draw_50 2 rfl ?_
    refine g_iconst hX dX8_draw_51 ?_
    refine g_isub hX dX8_draw_52 ?_
    refine g_istore (loc' := [(5, vi (x1 - 1)), (4, vi x2), (0, gR G 400), (1, vi x1), (2, vi x2), (3, vi x3)]) hX dX8_draw_53 (by decide) rfl ?_
    exact g_sub [2, 5, 1, 0] rfl h
  · replace h := h.2 (Int.not_le.mp c3)
    refine g_aload_n hX dX8_draw_32 0 rfl ?_
    refine g_getR hX sh_400 33 rfl fl_X8_99 dX8_draw_33 ?_
    refine g_iload hX dX8_draw_36 4 rfl ?_
    refine g_iload hX dX8_draw_38 4 rfl ?_
    obtain ⟨h4, h⟩ := h
    refine g_iast hX sh_434 h4 (by decide) dX8_draw_40 ?_
    refine g_iinc (loc' := [(4, vi (x4 + 1)), (0, gR G 400), (1, vi x1), (2, vi x2), (3, vi x3)]) hX dX8_draw_41 4 rfl (by decide) rfl ?_
    refine g_goto (tgt := 26) hX dX8_draw_44 (by decide) ?_
    exact g_sub [1, 2, 3, 4, 0] rfl h
set_option maxRecDepth 100000 in
set_option maxHeartbeats 4000000 in
theorem bk_X8_draw_55 {X : gX} {G : gG} (hX : gOk X G cX8_draw 8 RX8 (some .int) 2) {Q : Int → gS → Prop} (hE : gEnd X G (gPi (fun v s' => Q v s' ∧ gRg s'))) (s : gS) (hs : gRg s) (x3 : Int) (x4 : Int) (x5 : Int)  (h : (rng x5) ∧ ((x5 ≤ 0 → (0 ≤ x3 ∧ x3 < 12) ∧ Q (s.2 434 x3) s) ∧ (0 < x5 → (rng (x5 + 1)) ∧ (0 < (x5 + 1)) ∧ (0 ≤ x5 ∧ x5 < 12) ∧ (0 ≤ ((gushr ((1103515245 * x4) + 12345) 8).tmod (x5 + 1)) ∧ ((gushr ((1103515245 * x4) + 12345) 8).tmod (x5 + 1)) < 12) ∧ gWL X G (gpA (gpA s 434 x5 (s.2 434 ((gushr ((1103515245 * x4) + 12345) 8).tmod (x5 + 1)))) 434 ((gushr ((1103515245 * x4) + 12345) 8).tmod (x5 + 1)) (s.2 434 x5)) 55 [(0, gR G 400), (3, vi x3), (4, vi ((1103515245 * x4) + 12345)), (5, vi (x5 - 1))] []))) : gWL X G s 55 [(0, gR G 400), (3, vi x3), (4, vi x4), (5, vi x5)] [] := by
  refine g_iload hX dX8_draw_55 3 rfl ?_
  obtain ⟨h1, h⟩ := h
  refine g_ifle (tgt := 121) hX h1 dX8_draw_57 (by decide) (fun c2 => ?_) (fun c2 => ?_)
  · replace h := h.1 c2
    refine g_aload_n hX dX8_draw_121 0 rfl ?_
    refine g_getR hX sh_400 33 rfl fl_X8_99 dX8_draw_122 ?_
    refine g_iload_n hX dX8_draw_125 1 rfl ?_
    obtain ⟨h3, h⟩ := h
    refine g_iald hX sh_434 h3 (by decide) dX8_draw_126 ?_
    exact g_iret hX hE dX8_draw_127 ⟨h, hs⟩
  · replace h := h.2 (Int.not_le.mp c2)
    refine g_ldc (n := 1103515245) hX ldc_X8_187 dX8_draw_60 rfl ?_
    refine g_iload hX dX8_draw_62 2 rfl ?_
    refine g_imul hX dX8_draw_64 ?_
    refine g_sipush hX dX8_draw_65 rfl ?_
    refine g_iadd hX dX8_draw_68 ?_
    refine g_istore (loc' := [(4, vi ((1103515245 * x4) + 12345)), (0, gR G 400), (3, vi x3), (5, vi x5)]) hX dX8_draw_69 (by decide) rfl ?_
    refine g_iload hX dX8_draw_71 0 rfl ?_
    refine g_bipush hX dX8_draw_73 rfl ?_
    refine g_iushr hX dX8_draw_75 ?_
    refine g_iload hX dX8_draw_76 3 rfl ?_
    refine g_iconst hX dX8_draw_78 ?_
    refine g_iadd hX dX8_draw_79 ?_
    obtain ⟨h4, h⟩ := h
    obtain ⟨h5, h⟩ := h
    refine g_irem hX (rng_i _) h4 h5 dX8_draw_80 ?_
    refine g_istore (loc' := [(6, vi ((gushr ((1103515245 * x4) + 12345) 8).tmod (x5 + 1))), (4, vi ((1103515245 * x4) + 12345)), (0, gR G 400), (3, vi x3), (5, vi x5)]) hX dX8_draw_81 (by decide) rfl ?_
    refine g_aload_n hX dX8_draw_83 2 rfl ?_
    refine g_getR hX sh_400 33 rfl fl_X8_99 dX8_draw_84 ?_
    refine g_iload hX dX8_draw_87 4 rfl ?_
    obtain ⟨h6, h⟩ := h
    refine g_iald hX sh_434 h6 (by decide) dX8_draw_89 ?_
    refine g_istore (loc' := [(7, vi (s.2 434 x5)), (6, vi ((gushr ((1103515245 * x4) + 12345) 8).tmod (x5 + 1))), (4, vi ((1103515245 * x4) + 12345)), (0, gR G 400), (3, vi x3), (5, vi x5)]) hX dX8_draw_90 (by decide) rfl ?_
    refine g_aload_n hX dX8_draw_92 3 rfl ?_
    refine g_getR hX sh_400 33 rfl fl_X8_99 dX8_draw_93 ?_
    refine g_iload hX dX8_draw_96 5 rfl ?_
    refine g_aload_n hX dX8_draw_98 3 rfl ?_
    refine g_getR hX sh_400 33 rfl fl_X8_99 dX8_draw_99 ?_
    refine g_iload hX dX8_draw_102 1 rfl ?_
    obtain ⟨h7, h⟩ := h
    refine g_iald hX sh_434 h7 (by decide) dX8_draw_104 ?_
    refine g_iast hX sh_434 h6 (by decide) dX8_draw_105 ?_
    refine g_aload_n hX dX8_draw_106 3 rfl ?_
    refine g_getR hX sh_400 33 rfl fl_X8_99 dX8_draw_107 ?_
    refine g_iload hX dX8_draw_110 1 rfl ?_
    refine g_iload hX dX8_draw_112 0 rfl ?_
    refine g_iast hX sh_434 h7 (by decide) dX8_draw_114 ?_
    refine g_iinc (loc' := [(5, vi (x5 - 1)), (7, vi (s.2 434 x5)), (6, vi ((gushr ((1103515245 * x4) + 12345) 8).tmod (x5 + 1))), (4, vi ((1103515245 * x4) + 12345)), (0, gR G 400), (3, vi x3)]) hX dX8_draw_115 5 rfl (by decide) rfl ?_
    refine g_goto (tgt := 55) hX dX8_draw_118 (by decide) ?_
    exact g_sub [4, 5, 3, 0] rfl h
set_option maxRecDepth 100000 in
set_option maxHeartbeats 4000000 in
theorem c_X8_draw (l : Launch) {G : gG} (hG : gInj G) (s : gS) (x1 : Int) (x2 : Int) (x3 : Int) (p0 : gRg s) (p1 : rng x1) (p2 : rng x3) : gMet l G yX8_draw cX8_draw 8 (some .int) 2 [gR G 400, vi x1, vi x2, vi x3] s (gPi (fun v s' => (if (1 ≤ x1 ∧ x1 ≤ 12) ∧ (0 ≤ x3 ∧ x3 ≤ x1 - 1) then v = s'.2 434 x3 ∧ gdrawn s s' 434 x1 x2 else v = -1 ∧ s' = s) ∧ gRg s')) := by
  refine gMet_of (plainFor_of_name (by decide)) hG (Nat.le_of_ble_eq_true rfl) (fun X hX hE => ?_)
  refine bk_X8_draw_0 hX hE s p0 x1 x2 x3  ?_
  refine ⟨p1, fun a => by rw [if_neg (fun z => a z.1)]; exact ⟨rfl, rfl⟩, fun a => ⟨p2, rng_of (by omega) (by omega), fun b => ?_, fun b => by rw [if_neg (fun z => b z.2)]; exact ⟨rfl, rfl⟩⟩⟩
  refine gloop (α := gS) (hi := x1) (fun i t => 0 ≤ i ∧ gRg t ∧ t.1 = s.1 ∧ (∀ k' : Int, k' ≠ 434 → t.2 k' = s.2 k') ∧ ∀ j : Int, 0 ≤ j → j < i → t.2 434 j = j) (fun i t => gWL X G t 26 [(0, gR G 400), (1, vi x1), (2, vi x2), (3, vi x3), (4, vi i)] []) ?_ ?_ 0 s (by omega) ⟨by omega, p0, rfl, fun _ _ => rfl, fun j h0 h1 => by omega⟩
  · intro i t hi ⟨h0, hg, h1, h2, h3⟩ next
    refine bk_X8_draw_26 hX hE t hg x1 x2 x3 i ⟨rng_of (by omega) (by omega), p1, fun h => by omega, fun _ => ⟨by omega, next _ ⟨by omega, gRg_A hg (rng_of (by omega) (by omega)), h1, fun k' hk => ?_, fun j j0 j1 => ?_⟩⟩⟩
    · rw [← h2 k' hk]; funext j; exact gpA_nk hk
    · by_cases e : j = i
      · subst e; exact gpA_eq
      · rw [gpA_ni e]; exact h3 j j0 (by omega)
  intro t ⟨h0, hg, h1, h2, h3⟩
  refine bk_X8_draw_26 hX hE t hg x1 x2 x3 x1 ⟨p1, p1, fun _ => ?_, fun h => by omega⟩
  refine gloopD (α := gS × Int) (lo := 0) (fun i a => i < x1 ∧ gRg a.1 ∧ a.1.1 = s.1 ∧ (∀ k' : Int, k' ≠ 434 → a.1.2 k' = s.2 k') ∧ (∀ j : Int, 0 ≤ j → j < x1 → a.1.2 434 j = (gdit x1 x2 (x1 - 1 - i)).1 j) ∧ a.2 = (gdit x1 x2 (x1 - 1 - i)).2) (fun i a => gWL X G a.1 55 [(0, gR G 400), (3, vi x3), (4, vi a.2), (5, vi i)] []) ?_ ?_ (x1 - 1) (t, x2) (by omega) ⟨by omega, hg, h1, h2, fun j j0 j1 => by rw [show x1 - 1 - (x1 - 1) = 0 by omega]; exact h3 j j0 j1, by rw [show x1 - 1 - (x1 - 1) = 0 by omega]; rfl⟩
  · intro i ⟨t, x⟩ hi ⟨hin, hg, h1, h2, hA, hx⟩ next
    dsimp only at hg h1 h2 hA hx ⊢
    have hq := gdq (g := (1103515245 * x) + 12345) (i := i) (by omega)
    have hst := gdstep hi hin hA hx
    refine bk_X8_draw_55 hX hE t hg x3 x i ⟨rng_of (by omega) (by omega), fun h => by omega, fun _ => ⟨rng_of (by omega) (by omega), by omega, by omega, by omega, ?_⟩⟩
    exact next (gswap t 434 i ((gushr ((1103515245 * x) + 12345) 8).tmod (i + 1)), (1103515245 * x) + 12345) ⟨by omega, gswap_rg hg, h1, fun k' hk => (gswap_off t 434 i _ k' hk).trans (h2 k' hk), hst.1, hst.2⟩
  · intro ⟨t, x⟩ ⟨hin, hg, h1, h2, hA, hx⟩
    dsimp only at hg h1 h2 hA hx ⊢
    refine bk_X8_draw_55 hX hE t hg x3 x 0 ⟨rng_of (by omega) (by omega), fun _ => ⟨by omega, ?_⟩, fun h => by omega⟩
    rw [if_pos ⟨a, b⟩]
    refine ⟨rfl, h1, h2, fun j j0 j1 => ?_⟩
    rw [hA j j0 j1, show x1 - 1 - 0 = x1 - 1 by omega]

