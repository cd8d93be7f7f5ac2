theorem fl_X8_41 : gFL RX8 41 8 10 := ⟨RX8, TX8, 34, tyX8, rfl, by decide, inG_X8, (gm_3 48 rfl rfl), tyX8_ok, nmX8, fun _ => rfl⟩
theorem cv_X8_106 : gCS RX8 106 yX8_isRecording cX8_isRecording 1 (some .boolean) 1 := ⟨(gm_3 153 rfl rfl), (gm_3 154 rfl rfl), (gm_1 9 rfl rfl), (gm_3 155 rfl rfl), ⟨by decide, by decide, by decide +kernel⟩, by decide⟩
theorem cv_X8_129 : gCV RX8 129 yX8_lays cX8_lays 12 (some .int) 1 8 := ⟨TX8, 34, rfl, (gm_3 168 rfl rfl), (gm_3 170 rfl rfl), (gm_s 17 rfl rfl), (gm_1 9 rfl rfl), (gm_3 171 rfl rfl), ⟨by decide, by decide, by decide +kernel⟩, by decide⟩
theorem cv_X8_133 : gCV RX8 133 yX8_isNote cX8_isNote 3 (some .boolean) 2 8 := ⟨TX8, 34, rfl, (gm_3 196 rfl rfl), (gm_3 198 rfl rfl), (gm_s 22 rfl rfl), (gm_1 9 rfl rfl), (gm_3 199 rfl rfl), ⟨by decide, by decide, by decide +kernel⟩, by decide⟩
theorem cv_X8_137 : gCV RX8 137 yX8_isFault cX8_isFault 4 (some .boolean) 1 8 := ⟨TX8, 34, rfl, (gm_3 200 rfl rfl), (gm_3 202 rfl rfl), (gm_s 23 rfl rfl), (gm_1 9 rfl rfl), (gm_3 203 rfl rfl), ⟨by decide, by decide, by decide +kernel⟩, by decide⟩
theorem ldc_X8_140 : Cond.constant RX8 140 (-100000) ∈ gAll := (gm_3 208 rfl rfl)
def mbef (s : gS) (k : Int) : Int := giter (fun q b => if s.2 416 q = 0 then b else s.2 415 q) 0 k
def mfl (s : gS) (k : Int) : Int := if s.2 413 k = 0 then 1 else if s.2 416 k = 0 then 0 else gb (s.1 400 10 < gfar (s.2 415 k) (mbef s k))
def mOb (s : gS) (k : Int) : Prop := ∀ q : Int, 0 ≤ q → q ≤ k → -4800 ≤ s.2 415 q ∧ s.2 415 q ≤ 4800
def mfr (s : gS) (n : Int) : Int := giter (fun k a => if s.2 416 k = 0 then a else if a = -1 then k else a) (-1) n
def mto (s : gS) (n : Int) : Int := giter (fun k a => if s.2 416 k = 0 then a else k) (-1) n
def mstold (s : gS) (n : Int) : Int := if mfr s n = -1 then 0 else s.2 415 (mfr s n) - s.2 415 (mto s n)
theorem mfl_01 (s : gS) (k : Int) : mfl s k = 0 ∨ mfl s k = 1 := by
  unfold mfl
  split
  · exact Or.inr rfl
  · split
    · exact Or.inl rfl
    · exact gb_01 _
theorem gTk_pos {M : Nat → Int} {rd pt bt : Int → Int} {n all : Int} {B : Int → Int → Int} {pos take : Int → Int} (h : gTk M rd pt bt n all B pos take) (ha : 0 ≤ all) : ∀ k : Int, 0 ≤ k → k ≤ n → 0 ≤ pos k ∧ pos k ≤ all := by
  have key : ∀ m : Nat, (m : Int) ≤ n → 0 ≤ pos (m : Int) ∧ pos (m : Int) ≤ all := by
    intro m
    induction m with
    | zero =>
      intro _
      have h0 : pos ((0 : Nat) : Int) = 0 := h.1
      rw [h0]; omega
    | succ m ih =>
      intro hm
      have h1 := ih (by omega)
      obtain ⟨h2, h3, -⟩ := h.2 (m : Int) (by omega) (by omega)
      have e : ((m + 1 : Nat) : Int) = (m : Int) + 1 := by omega
      rw [e, h3]; omega
  intro k k0 k1
  have := key k.toNat (by omega)
  rw [show ((k.toNat : Nat) : Int) = k by omega] at this
  exact this
/-- behind lays: the offs are small, the rows are 0 or 1 -/
theorem mlays_ob {s t : gS} {r w : Int} (hr : 0 ≤ r ∧ r < 10) (hV : mV s) (h : mlays s t r w) (hn : ¬ s.2 401 (s.2 404 r) = 0) : ∀ k : Int, 0 ≤ k → k < s.2 401 (s.2 404 r) → -4800 ≤ t.2 415 k ∧ t.2 415 k ≤ 4800 := by
  intro k k0 k1
  obtain ⟨⟨h1, h2⟩, ⟨B, pos, hDP, htk, hw, hnote⟩, -⟩ := h.2 hn
  have e404 : t.2 404 = s.2 404 := h2 _ (by decide)
  have e401 : t.2 401 = s.2 401 := h2 _ (by decide)
  have e405 : t.2 405 = s.2 405 := h2 _ (by decide)
  have e402 : t.2 402 = s.2 402 := h2 _ (by decide)
  have e406 : t.2 406 = s.2 406 := h2 _ (by decide)
  obtain ⟨-, hvr, hvp⟩ := hV
  have hrr := hvr r hr.1 hr.2
  have hpp := (hvp (s.2 404 r) hrr.1.1 hrr.1.2)
  have hpos := gTk_pos htk (by rw [e405]; exact hrr.2.1.1) k k0 (by rw [e404, e401]; omega)
  have htk2 := htk.2 k k0 (by rw [e404, e401]; exact k1)
  have hno := (hnote k k0 (by rw [e404, e401]; exact k1)).2.2
  rw [e405] at hpos htk2
  have hb := gof_bd (rd := fun q => mRdF t r (pos k + q)) (p := mPtF t (t.2 404 r) k) (t := t.2 413 k) htk2.1.1 (by unfold mPtF; rw [e404, e402]; exact (hpp.2 k k0 k1).1) (fun q q0 q1 => by
    unfold mRdF
    rw [e406]
    exact hrr.2.2 _ (by omega) (by omega))
  rw [hno]
  split
  · omega
  · rcases hb with q | q
    · omega
    · exact q
set_option maxRecDepth 100000 in
set_option maxHeartbeats 4000000 in
theorem bk_X8_lay_0 {X : gX} {G : gG} (hX : gOk X G cX8_lay 2 RX8 (some .int) 5) {Q : Int → gS → Prop} (hE : gEnd X G (gPi (fun v s' => Q v s' ∧ gRg s'))) (s : gS) (hs : gRg s) (x1 : Int)  (h : (rng x1) ∧ ((¬ (0 ≤ x1 ∧ x1 ≤ 9) → Q (-1) s) ∧ (0 ≤ x1 ∧ x1 ≤ 9 → (0 ≤ x1 ∧ x1 < 10) ∧ (mV s) ∧ (∀ (v8 : Int) (s6 : gS), ((mlays s s6 x1 v8) ∧ gRg s6) → Q v8 s6)))) : gWL X G s 0 [(0, gR G 400), (1, vi x1)] [] := by
  refine g_iload_n hX dX8_lay_0 1 rfl ?_
  obtain ⟨h1, h⟩ := h
  refine g_cSf (As := [vi x1]) hX (fun l => c_X8_isRecording l hX.inj s x1 hs h1) cv_X8_106 (by decide) rfl (Nat.le_of_ble_eq_true rfl) dX8_lay_1 rfl (fun g2 => ?_)
  refine g_ifeq (tgt := 15) hX (gb_rng _) dX8_lay_4 (by decide) (fun c3 => ?_) (fun c3 => ?_)
  · replace h := h.1 (gb_eq0.mp c3)
    refine g_iconst hX dX8_lay_15 ?_
    exact g_iret hX hE dX8_lay_16 ⟨h, hs⟩
  · replace h := h.2 (gb_n0.mp c3)
    refine g_aload_n hX dX8_lay_7 0 rfl ?_
    refine g_iload_n hX dX8_lay_8 1 rfl ?_
    obtain ⟨h4, h⟩ := h
    obtain ⟨h5, h⟩ := h
    refine g_cVr (As := [vi x1]) hX (fun l => c_X8_lays l hX.inj s x1 hs h4 h5) sh_400 cv_X8_129 (by decide) rfl (Nat.le_of_ble_eq_true rfl) dX8_lay_9 rfl (fun v8 s6 q7 => ?_)
    replace h := h v8 s6 q7
    have rs6 : gRg s6 := q7.2
    refine g_goto (tgt := 16) hX dX8_lay_12 (by decide) ?_
    exact g_iret hX hE dX8_lay_16 ⟨h, rs6⟩
set_option maxRecDepth 100000 in
set_option maxHeartbeats 4000000 in
theorem c_X8_lay (l : Launch) {G : gG} (hG : gInj G) (s : gS) (x1 : Int) (p0 : gRg s) (p1 : rng x1) (p2 : mV s) : gMet l G yX8_lay cX8_lay 2 (some .int) 5 [gR G 400, vi x1] s (gPi (fun v s' => (((0 ≤ x1 ∧ x1 ≤ 9) → mlays s s' x1 v) ∧ (¬ (0 ≤ x1 ∧ x1 ≤ 9) → v = -1 ∧ s' = s)) ∧ gRg s')) := by
  refine gMet_of (plainFor_of_name (by decide)) hG (Nat.le_of_ble_eq_true rfl) (fun X hX hE => ?_)
  refine bk_X8_lay_0 hX hE s p0 x1  ?_
  exact ⟨p1, fun a => ⟨fun z => absurd z a, fun _ => ⟨rfl, rfl⟩⟩, fun a => ⟨by omega, p2, fun v u hq => ⟨fun _ => hq.1, fun z => absurd a z⟩⟩⟩
set_option maxRecDepth 100000 in
set_option maxHeartbeats 4000000 in
theorem bk_X8_isNote_0 {X : gX} {G : gG} (hX : gOk X G cX8_isNote 3 RX8 (some .boolean) 5) {Q : Int → gS → Prop} (hE : gEnd X G (gPi (fun v s' => Q v s' ∧ gRg s'))) (s : gS) (hs : gRg s) (x1 : Int) (x2 : Int)  (h : (rng x1) ∧ ((¬ (0 ≤ x1 ∧ x1 ≤ 9) → Q 0 s) ∧ (0 ≤ x1 ∧ x1 ≤ 9 → (rng x2) ∧ ((x2 < 0 → Q 0 s) ∧ (0 ≤ x2 → (0 ≤ x1 ∧ x1 < 10) ∧ (0 ≤ (s.2 404 x1) ∧ (s.2 404 x1) < 6) ∧ (((s.2 401 (s.2 404 x1)) ≤ x2 → Q 0 s) ∧ (x2 < (s.2 401 (s.2 404 x1)) → (mV s) ∧ (∀ (v12 : Int) (s10 : gS), ((mlays s s10 x1 v12) ∧ gRg s10) → (rng v12) ∧ ((v12 = (-1) → Q 0 s10) ∧ (¬ (v12 = (-1)) → Q 1 s10)))))))))) : gWL X G s 0 [(0, gR G 400), (1, vi x1), (2, vi x2)] [] := by
  refine g_iload_n hX dX8_isNote_0 1 rfl ?_
  obtain ⟨h1, h⟩ := h
  refine g_cSf (As := [vi x1]) hX (fun l => c_X8_isRecording l hX.inj s x1 hs h1) cv_X8_106 (by decide) rfl (Nat.le_of_ble_eq_true rfl) dX8_isNote_1 rfl (fun g2 => ?_)
  refine g_ifeq (tgt := 39) hX (gb_rng _) dX8_isNote_4 (by decide) (fun c3 => ?_) (fun c3 => ?_)
  · replace h := h.1 (gb_eq0.mp c3)
    refine g_iconst hX dX8_isNote_39 ?_
    exact g_zret hX hE (Or.inl rfl) dX8_isNote_40 ⟨h, hs⟩
  · replace h := h.2 (gb_n0.mp c3)
    refine g_iload_n hX dX8_isNote_7 2 rfl ?_
    obtain ⟨h4, h⟩ := h
    refine g_iflt (tgt := 39) hX h4 dX8_isNote_8 (by decide) (fun c5 => ?_) (fun c5 => ?_)
    · replace h := h.1 c5
      refine g_iconst hX dX8_isNote_39 ?_
      exact g_zret hX hE (Or.inl rfl) dX8_isNote_40 ⟨h, hs⟩
    · replace h := h.2 (Int.not_lt.mp c5)
      refine g_iload_n hX dX8_isNote_11 2 rfl ?_
      refine g_aload_n hX dX8_isNote_12 0 rfl ?_
      refine g_getR hX sh_400 0 rfl fl_X8_7 dX8_isNote_13 ?_
      refine g_aload_n hX dX8_isNote_16 0 rfl ?_
      refine g_getR hX sh_400 3 rfl fl_X8_19 dX8_isNote_17 ?_
      refine g_iload_n hX dX8_isNote_20 1 rfl ?_
      obtain ⟨h6, h⟩ := h
      refine g_iald hX sh_404 h6 (by decide) dX8_isNote_21 ?_
      obtain ⟨h7, h⟩ := h
      refine g_iald hX sh_401 h7 (by decide) dX8_isNote_22 ?_
      refine g_icge (tgt := 39) hX h4 (hs.2 _ _) dX8_isNote_23 (by decide) (fun c8 => ?_) (fun c8 => ?_)
      · replace h := h.1 c8
        refine g_iconst hX dX8_isNote_39 ?_
        exact g_zret hX hE (Or.inl rfl) dX8_isNote_40 ⟨h, hs⟩
      · replace h := h.2 (Int.not_le.mp c8)
        refine g_aload_n hX dX8_isNote_26 0 rfl ?_
        refine g_iload_n hX dX8_isNote_27 1 rfl ?_
        obtain ⟨h9, h⟩ := h
        refine g_cVr (As := [vi x1]) hX (fun l => c_X8_lays l hX.inj s x1 hs h6 h9) sh_400 cv_X8_129 (by decide) rfl (Nat.le_of_ble_eq_true rfl) dX8_isNote_28 rfl (fun v12 s10 q11 => ?_)
        replace h := h v12 s10 q11
        have rs10 : gRg s10 := q11.2
        refine g_iconst hX dX8_isNote_31 ?_
        obtain ⟨h13, h⟩ := h
        refine g_iceq (tgt := 39) hX h13 (by unfold rng; omega) dX8_isNote_32 (by decide) (fun c14 => ?_) (fun c14 => ?_)
        · replace h := h.1 c14
          refine g_iconst hX dX8_isNote_39 ?_
          exact g_zret hX hE (Or.inl rfl) dX8_isNote_40 ⟨h, rs10⟩
        · replace h := h.2 c14
          refine g_iconst hX dX8_isNote_35 ?_
          refine g_goto (tgt := 40) hX dX8_isNote_36 (by decide) ?_
          exact g_zret hX hE (Or.inr rfl) dX8_isNote_40 ⟨h, rs10⟩
set_option maxRecDepth 100000 in
set_option maxHeartbeats 4000000 in
theorem c_X8_isNote (l : Launch) {G : gG} (hG : gInj G) (s : gS) (x1 : Int) (x2 : Int) (p0 : gRg s) (p1 : rng x1) (p2 : rng x2) (p3 : mV s) : gMet l G yX8_isNote cX8_isNote 3 (some .boolean) 5 [gR G 400, vi x1, vi x2] s (gPi (fun v s' => ((((0 ≤ x1 ∧ x1 ≤ 9) ∧ 0 ≤ x2 ∧ x2 < s.2 401 (s.2 404 x1)) → v = 1 ∧ ∃ w : Int, mlays s s' x1 w) ∧ (¬ ((0 ≤ x1 ∧ x1 ≤ 9) ∧ 0 ≤ x2 ∧ x2 < s.2 401 (s.2 404 x1)) → v = 0 ∧ s' = s)) ∧ gRg s')) := by
  refine gMet_of (plainFor_of_name (by decide)) hG (Nat.le_of_ble_eq_true rfl) (fun X hX hE => ?_)
  refine bk_X8_isNote_0 hX hE s p0 x1 x2  ?_
  refine ⟨p1, fun a => ⟨fun z => absurd z.1 a, fun _ => ⟨rfl, rfl⟩⟩, fun a => ⟨p2, fun b => ⟨fun z => by omega, fun _ => ⟨rfl, rfl⟩⟩, fun b => ⟨by omega, (p3.2.1 x1 (by omega) (by omega)).1, fun c => ⟨fun z => by omega, fun _ => ⟨rfl, rfl⟩⟩, fun c => ⟨p3, fun v u hq => ?_⟩⟩⟩⟩
  have hv := (hq.1.2 (by omega)).2.2
  exact ⟨rng_of (by omega) (by omega), fun z => by omega, fun _ => ⟨fun _ => ⟨rfl, v, hq.1⟩, fun z => absurd ⟨a, b, c⟩ z⟩⟩
set_option maxRecDepth 100000 in
set_option maxHeartbeats 4000000 in
theorem bk_X8_isFault_0 {X : gX} {G : gG} (hX : gOk X G cX8_isFault 4 RX8 (some .boolean) 2) {Q : Int → gS → Prop} (hE : gEnd X G (gPi (fun v s' => Q v s' ∧ gRg s'))) (s : gS) (hs : gRg s) (x1 : Int)  (h : (0 ≤ x1 ∧ x1 < 24) ∧ ((¬ (s.2 413 x1) = 0 → ((¬ (s.2 416 x1) = 0 → gWL X G s 26 [(0, gR G 400), (1, vi x1), (2, vi 0), (3, vi 0)] []) ∧ ((s.2 416 x1) = 0 → Q 0 s))) ∧ ((s.2 413 x1) = 0 → Q 1 s))) : gWL X G s 0 [(0, gR G 400), (1, vi x1)] [] := by
  refine g_aload_n hX dX8_isFault_0 0 rfl ?_
  refine g_getR hX sh_400 12 rfl fl_X8_47 dX8_isFault_1 ?_
  refine g_iload_n hX dX8_isFault_4 1 rfl ?_
  obtain ⟨h1, h⟩ := h
  refine g_iald hX sh_413 h1 (by decide) dX8_isFault_5 ?_
  refine g_ifne (tgt := 11) hX (hs.2 _ _) dX8_isFault_6 (by decide) (fun c2 => ?_) (fun c2 => ?_)
  · replace h := h.1 c2
    refine g_aload_n hX dX8_isFault_11 0 rfl ?_
    refine g_getR hX sh_400 15 rfl fl_X8_56 dX8_isFault_12 ?_
    refine g_iload_n hX dX8_isFault_15 1 rfl ?_
    refine g_zald hX sh_416 h1 (by decide) dX8_isFault_16 ?_
    refine g_ifne (tgt := 22) hX (hs.2 _ _) dX8_isFault_17 (by decide) (fun c3 => ?_) (fun c3 => ?_)
    · replace h := h.1 c3
      refine g_iconst hX dX8_isFault_22 ?_
      refine g_istore_n (loc' := [(2, vi 0), (0, gR G 400), (1, vi x1)]) hX dX8_isFault_23 (by decide) rfl ?_
      refine g_iconst hX dX8_isFault_24 ?_
      refine g_istore_n (loc' := [(3, vi 0), (2, vi 0), (0, gR G 400), (1, vi x1)]) hX dX8_isFault_25 (by decide) rfl ?_
      exact g_sub [2, 3, 1, 0] rfl h
    · replace h := h.2 (gnn c3)
      refine g_iconst hX dX8_isFault_20 ?_
      exact g_zret hX hE (Or.inl rfl) dX8_isFault_21 ⟨h, hs⟩
  · replace h := h.2 (gnn c2)
    refine g_iconst hX dX8_isFault_9 ?_
    exact g_zret hX hE (Or.inr rfl) dX8_isFault_10 ⟨h, hs⟩
set_option maxRecDepth 100000 in
set_option maxHeartbeats 4000000 in
theorem bk_X8_isFault_26 {X : gX} {G : gG} (hX : gOk X G cX8_isFault 4 RX8 (some .boolean) 2) {Q : Int → gS → Prop} (hE : gEnd X G (gPi (fun v s' => Q v s' ∧ gRg s'))) (s : gS) (hs : gRg s) (x1 : Int) (x2 : Int) (x3 : Int)  (h : (rng x3) ∧ (rng x1) ∧ ((x1 ≤ x3 → (0 ≤ x1 ∧ x1 < 24) ∧ (rng x2) ∧ (rng (gfar (s.2 415 x1) x2)) ∧ (((gfar (s.2 415 x1) x2) ≤ (s.1 400 10) → Q 0 s) ∧ ((s.1 400 10) < (gfar (s.2 415 x1) x2) → Q 1 s))) ∧ (x3 < x1 → (0 ≤ x3 ∧ x3 < 24) ∧ (((s.2 416 x3) = 0 → gWL X G s 26 [(0, gR G 400), (1, vi x1), (2, vi x2), (3, vi (x3 + 1))] []) ∧ (¬ ((s.2 416 x3) = 0) → gWL X G s 26 [(0, gR G 400), (1, vi x1), (2, vi (s.2 415 x3)), (3, vi (x3 + 1))] []))))) : gWL X G s 26 [(0, gR G 400), (1, vi x1), (2, vi x2), (3, vi x3)] [] := by
  refine g_iload_n hX dX8_isFault_26 3 rfl ?_
  refine g_iload_n hX dX8_isFault_27 1 rfl ?_
  obtain ⟨h1, h⟩ := h
  obtain ⟨h2, h⟩ := h
  refine g_icge (tgt := 53) hX h1 h2 dX8_isFault_28 (by decide) (fun c3 => ?_) (fun c3 => ?_)
  · replace h := h.1 c3
    refine g_aload_n hX dX8_isFault_53 0 rfl ?_
    refine g_getR hX sh_400 14 rfl fl_X8_53 dX8_isFault_54 ?_
    refine g_iload_n hX dX8_isFault_57 1 rfl ?_
    obtain ⟨h4, h⟩ := h
    refine g_iald hX sh_415 h4 (by decide) dX8_isFault_58 ?_
    refine g_iload_n hX dX8_isFault_59 2 rfl ?_
    obtain ⟨h5, h⟩ := h
    refine g_cSf (As := [vi (s.2 415 x1), vi x2]) hX (fun l => c_X8_far l hX.inj s (s.2 415 x1) x2 hs (hs.2 _ _) h5) cv_X8_110 (by decide) rfl (Nat.le_of_ble_eq_true rfl) dX8_isFault_60 rfl (fun g6 => ?_)
    refine g_aload_n hX dX8_isFault_63 0 rfl ?_
    refine g_getI hX sh_400 10 rfl fl_X8_41 dX8_isFault_64 ?_
    obtain ⟨h7, h⟩ := h
    refine g_icle (tgt := 74) hX h7 (hs.1 _ _) dX8_isFault_67 (by decide) (fun c8 => ?_) (fun c8 => ?_)
    · replace h := h.1 c8
      refine g_iconst hX dX8_isFault_74 ?_
      exact g_zret hX hE (Or.inl rfl) dX8_isFault_75 ⟨h, hs⟩
    · replace h := h.2 (Int.not_le.mp c8)
      refine g_iconst hX dX8_isFault_70 ?_
      refine g_goto (tgt := 75) hX dX8_isFault_71 (by decide) ?_
      exact g_zret hX hE (Or.inr rfl) dX8_isFault_75 ⟨h, hs⟩
  · replace h := h.2 (Int.not_le.mp c3)
    refine g_aload_n hX dX8_isFault_31 0 rfl ?_
    refine g_getR hX sh_400 15 rfl fl_X8_56 dX8_isFault_32 ?_
    refine g_iload_n hX dX8_isFault_35 3 rfl ?_
    obtain ⟨h9, h⟩ := h
    refine g_zald hX sh_416 h9 (by decide) dX8_isFault_36 ?_
    refine g_ifeq (tgt := 47) hX (hs.2 _ _) dX8_isFault_37 (by decide) (fun c10 => ?_) (fun c10 => ?_)
    · replace h := h.1 c10
      refine g_iinc (loc' := [(3, vi (x3 + 1)), (0, gR G 400), (1, vi x1), (2, vi x2)]) hX dX8_isFault_47 3 rfl (by decide) rfl ?_
      refine g_goto (tgt := 26) hX dX8_isFault_50 (by decide) ?_
      exact g_sub [1, 2, 3, 0] rfl h
    · replace h := h.2 c10
      refine g_aload_n hX dX8_isFault_40 0 rfl ?_
      refine g_getR hX sh_400 14 rfl fl_X8_53 dX8_isFault_41 ?_
      refine g_iload_n hX dX8_isFault_44 3 rfl ?_
      refine g_iald hX sh_415 h9 (by decide) dX8_isFault_45 ?_
      refine g_istore_n (loc' := [(2, vi (s.2 415 x3)), (0, gR G 400), (1, vi x1), (3, vi x3)]) hX dX8_isFault_46 (by decide) rfl ?_
      refine g_iinc (loc' := [(3, vi (x3 + 1)), (2, vi (s.2 415 x3)), (0, gR G 400), (1, vi x1)]) hX dX8_isFault_47 3 rfl (by decide) rfl ?_
      refine g_goto (tgt := 26) hX dX8_isFault_50 (by decide) ?_
      exact g_sub [2, 3, 1, 0] rfl h
set_option maxRecDepth 100000 in
set_option maxHeartbeats 4000000 in
theorem c_X8_isFault (l : Launch) {G : gG} (hG : gInj G) (s : gS) (x1 : Int) (p0 : gRg s) (p1 : 0 ≤ x1 ∧ x1 < 24) (p2 : mOb s x1) : gMet l G yX8_isFault cX8_isFault 4 (some .boolean) 2 [gR G 400, vi x1] s (gPi (fun v s' => (v = (mfl s x1) ∧ s' = s) ∧ gRg s')) := by
  refine gMet_of (plainFor_of_name (by decide)) hG (Nat.le_of_ble_eq_true rfl) (fun X hX hE => ?_)
  refine bk_X8_isFault_0 hX hE s p0 x1  ?_
  refine ⟨p1, fun a => ⟨fun b => ?_, fun b => ⟨by unfold mfl; rw [if_neg a, if_pos b], rfl⟩⟩, fun a => ⟨by unfold mfl; rw [if_pos a], rfl⟩⟩
  have hq : mfl s x1 = gb (s.1 400 10 < gfar (s.2 415 x1) (mbef s x1)) := by unfold mfl; rw [if_neg a, if_neg b]
  refine gloop (α := Int) (hi := x1) (fun i c => 0 ≤ i ∧ c = mbef s i ∧ -4800 ≤ c ∧ c ≤ 4800) (fun i c => gWL X G s 26 [(0, gR G 400), (1, vi x1), (2, vi c), (3, vi i)] []) ?_ ?_ 0 0 p1.1 ⟨by omega, rfl, by omega, by omega⟩
  · intro i c hi ⟨i0, hc, hcb⟩ next
    have hs : mbef s (i + 1) = if s.2 416 i = 0 then c else s.2 415 i := by unfold mbef; rw [giter_s _ _ i0, hc]; rfl
    refine bk_X8_isFault_26 hX hE s p0 x1 c i ⟨rng_of (by omega) (by omega), rng_of (by omega) (by omega), fun h => by omega, fun _ => ⟨by omega, fun h => next _ ⟨by omega, by rw [hs, if_pos h], hcb⟩, fun h => next _ ⟨by omega, by rw [hs, if_neg h], p2 i i0 (by omega)⟩⟩⟩
  · intro c ⟨i0, hc, hcb⟩
    have hob := p2 x1 i0 (by omega)
    have hr : rng (gfar (s.2 415 x1) c) := by unfold gfar; split <;> exact rng_of (by omega) (by omega)
    refine bk_X8_isFault_26 hX hE s p0 x1 c x1 ⟨rng_of (by omega) (by omega), rng_of (by omega) (by omega), fun _ => ⟨p1, rng_of (by omega) (by omega), hr, fun h => ⟨?_, rfl⟩, fun h => ⟨?_, rfl⟩⟩, fun h => by omega⟩
    · rw [hq, ← hc]; exact (gb_f (by omega)).symm
    · rw [hq, ← hc]; exact (gb_t h).symm
set_option maxRecDepth 100000 in
set_option maxHeartbeats 4000000 in
theorem bk_X8_laid_0 {X : gX} {G : gG} (hX : gOk X G cX8_laid 4 RX8 (some .int) 6) {Q : Int → gS → Prop} (hE : gEnd X G (gPi (fun v s' => Q v s' ∧ gRg s'))) (s : gS) (hs : gRg s) (x1 : Int) (x2 : Int) (x3 : Int)  (h : (rng x1) ∧ (rng x2) ∧ (mV s) ∧ (∀ (v6 : Int) (s4 : gS), (((((0 ≤ x1 ∧ x1 ≤ 9) ∧ 0 ≤ x2 ∧ x2 < s.2 401 (s.2 404 x1)) → v6 = 1 ∧ ∃ w : Int, mlays s s4 x1 w) ∧ (¬ ((0 ≤ x1 ∧ x1 ≤ 9) ∧ 0 ≤ x2 ∧ x2 < s.2 401 (s.2 404 x1)) → v6 = 0 ∧ s4 = s)) ∧ gRg s4) → (rng v6) ∧ ((¬ v6 = 0 → (rng x3) ∧ (((x3 < 0 ∨ 2 < x3) → Q (-2) s4) ∧ ((x3 = 0) → (0 ≤ x2 ∧ x2 < 24) ∧ ((¬ (s4.2 413 x2) = 0 → Q (s4.2 414 x2) s4) ∧ ((s4.2 413 x2) = 0 → Q (-1) s4))) ∧ ((x3 = 1) → (0 ≤ x2 ∧ x2 < 24) ∧ Q (s4.2 413 x2) s4) ∧ ((x3 = 2) → (0 ≤ x2 ∧ x2 < 24) ∧ (mOb s4 x2) ∧ (rng (mfl s4 x2)) ∧ (((mfl s4 x2) = 0 → Q 0 s4) ∧ (¬ ((mfl s4 x2) = 0) → Q 1 s4))))) ∧ (v6 = 0 → Q (-2) s4)))) : gWL X G s 0 [(0, gR G 400), (1, vi x1), (2, vi x2), (3, vi x3)] [] := by
  refine g_aload_n hX dX8_laid_0 0 rfl ?_
  refine g_iload_n hX dX8_laid_1 1 rfl ?_
  refine g_iload_n hX dX8_laid_2 2 rfl ?_
  obtain ⟨h1, h⟩ := h
  obtain ⟨h2, h⟩ := h
  obtain ⟨h3, h⟩ := h
  refine g_cVr (As := [vi x1, vi x2]) hX (fun l => c_X8_isNote l hX.inj s x1 x2 hs h1 h2 h3) sh_400 cv_X8_133 (by decide) rfl (Nat.le_of_ble_eq_true rfl) dX8_laid_3 rfl (fun v6 s4 q5 => ?_)
  replace h := h v6 s4 q5
  have rs4 : gRg s4 := q5.2
  obtain ⟨h7, h⟩ := h
  refine g_ifne (tgt := 12) hX h7 dX8_laid_6 (by decide) (fun c8 => ?_) (fun c8 => ?_)
  · replace h := h.1 c8
    refine g_iload_n hX dX8_laid_12 3 rfl ?_
    obtain ⟨h9, h⟩ := h
    obtain ⟨hd, h⟩ := h
    by_cases hout : x3 < 0 ∨ 2 < x3
    · replace h := hd hout
      refine g_tabOut (tgt := 81) hX h9 dX8_laid_13 hout (by decide) ?_
      refine g_bipush hX dX8_laid_81 rfl ?_
      exact g_iret hX hE dX8_laid_83 ⟨h, rs4⟩
    by_cases h_0 : x3 = 0
    · replace h := h.1 h_0
      refine g_tabIn (tgt := 40) hX h9 dX8_laid_13 (by omega) (by omega) (by rw [h_0]; rfl) (by decide) ?_
      refine g_aload_n hX dX8_laid_40 0 rfl ?_
      refine g_getR hX sh_400 12 rfl fl_X8_47 dX8_laid_41 ?_
      refine g_iload_n hX dX8_laid_44 2 rfl ?_
      obtain ⟨h10, h⟩ := h
      refine g_iald hX sh_413 h10 (by decide) dX8_laid_45 ?_
      refine g_ifne (tgt := 53) hX (rs4.2 _ _) dX8_laid_46 (by decide) (fun c11 => ?_) (fun c11 => ?_)
      · replace h := h.1 c11
        refine g_aload_n hX dX8_laid_53 0 rfl ?_
        refine g_getR hX sh_400 13 rfl fl_X8_50 dX8_laid_54 ?_
        refine g_iload_n hX dX8_laid_57 2 rfl ?_
        refine g_iald hX sh_414 h10 (by decide) dX8_laid_58 ?_
        exact g_iret hX hE dX8_laid_59 ⟨h, rs4⟩
      · replace h := h.2 (gnn c11)
        refine g_iconst hX dX8_laid_49 ?_
        refine g_goto (tgt := 59) hX dX8_laid_50 (by decide) ?_
        exact g_iret hX hE dX8_laid_59 ⟨h, rs4⟩
    replace h := h.2
    by_cases h_1 : x3 = 1
    · replace h := h.1 h_1
      refine g_tabIn (tgt := 60) hX h9 dX8_laid_13 (by omega) (by omega) (by rw [h_1]; rfl) (by decide) ?_
      refine g_aload_n hX dX8_laid_60 0 rfl ?_
      refine g_getR hX sh_400 12 rfl fl_X8_47 dX8_laid_61 ?_
      refine g_iload_n hX dX8_laid_64 2 rfl ?_
      obtain ⟨h12, h⟩ := h
      refine g_iald hX sh_413 h12 (by decide) dX8_laid_65 ?_
      exact g_iret hX hE dX8_laid_66 ⟨h, rs4⟩
    replace h := h.2
    have h_2 : x3 = 2 := by omega
    replace h := h h_2
    refine g_tabIn (tgt := 67) hX h9 dX8_laid_13 (by omega) (by omega) (by rw [h_2]; rfl) (by decide) ?_
    refine g_aload_n hX dX8_laid_67 0 rfl ?_
    refine g_iload_n hX dX8_laid_68 2 rfl ?_
    obtain ⟨h13, h⟩ := h
    obtain ⟨h14, h⟩ := h
    refine g_cVf (As := [vi x2]) hX (fun l => c_X8_isFault l hX.inj s4 x2 rs4 h13 h14) sh_400 cv_X8_137 (by decide) rfl (Nat.le_of_ble_eq_true rfl) dX8_laid_69 rfl (fun g15 => ?_)
    obtain ⟨h16, h⟩ := h
    refine g_ifeq (tgt := 79) hX h16 dX8_laid_72 (by decide) (fun c17 => ?_) (fun c17 => ?_)
    · replace h := h.1 c17
      refine g_iconst hX dX8_laid_79 ?_
      exact g_iret hX hE dX8_laid_80 ⟨h, rs4⟩
    · replace h := h.2 c17
      refine g_iconst hX dX8_laid_75 ?_
      refine g_goto (tgt := 80) hX dX8_laid_76 (by decide) ?_
      exact g_iret hX hE dX8_laid_80 ⟨h, rs4⟩
  · replace h := h.2 (gnn c8)
    refine g_bipush hX dX8_laid_9 rfl ?_
    exact g_iret hX hE dX8_laid_11 ⟨h, rs4⟩
set_option maxRecDepth 100000 in
set_option maxHeartbeats 4000000 in
theorem c_X8_laid (l : Launch) {G : gG} (hG : gInj G) (s : gS) (x1 : Int) (x2 : Int) (x3 : Int) (p0 : gRg s) (p1 : rng x1) (p2 : rng x2) (p3 : rng x3) (p4 : mV s) : gMet l G yX8_laid cX8_laid 4 (some .int) 6 [gR G 400, vi x1, vi x2, vi x3] s (gPi (fun v s' => ((((0 ≤ x1 ∧ x1 ≤ 9) ∧ 0 ≤ x2 ∧ x2 < s.2 401 (s.2 404 x1)) → (∃ w : Int, mlays s s' x1 w) ∧ v = if x3 = 0 then (if s'.2 413 x2 = 0 then -1 else s'.2 414 x2) else if x3 = 1 then s'.2 413 x2 else if x3 = 2 then mfl s' x2 else -2) ∧ (¬ ((0 ≤ x1 ∧ x1 ≤ 9) ∧ 0 ≤ x2 ∧ x2 < s.2 401 (s.2 404 x1)) → v = -2 ∧ s' = s)) ∧ gRg s')) := by
  refine gMet_of (plainFor_of_name (by decide)) hG (Nat.le_of_ble_eq_true rfl) (fun X hX hE => ?_)
  refine bk_X8_laid_0 hX hE s p0 x1 x2 x3  ?_
  refine ⟨p1, p2, p4, fun v u hq => ?_⟩
  by_cases hc : ((0 ≤ x1 ∧ x1 ≤ 9) ∧ 0 ≤ x2 ∧ x2 < s.2 401 (s.2 404 x1))
  · obtain ⟨rfl, w, hw⟩ := hq.1.1 hc
    have hrr := p4.2.1 x1 (by omega) (by omega)
    have hnb := (p4.2.2 _ hrr.1.1 hrr.1.2).1
    have hob := mlays_ob (by omega) p4 hw (by omega)
    have hf := mfl_01 u x2
    refine ⟨rng_of (by omega) (by omega), fun _ => ⟨p3, fun h => ⟨fun _ => ⟨⟨w, hw⟩, ?_⟩, fun z => absurd hc z⟩, fun h => ⟨by omega, fun h2 => ⟨fun _ => ⟨⟨w, hw⟩, ?_⟩, fun z => absurd hc z⟩, fun h2 => ⟨fun _ => ⟨⟨w, hw⟩, ?_⟩, fun z => absurd hc z⟩⟩, fun h => ⟨by omega, fun _ => ⟨⟨w, hw⟩, ?_⟩, fun z => absurd hc z⟩, fun h => ⟨by omega, fun q q0 q1 => hob q q0 (by omega), rng_of (by omega) (by omega), fun h2 => ⟨fun _ => ⟨⟨w, hw⟩, ?_⟩, fun z => absurd hc z⟩, fun h2 => ⟨fun _ => ⟨⟨w, hw⟩, ?_⟩, fun z => absurd hc z⟩⟩⟩, fun z => by omega⟩
    · rw [if_neg (by omega), if_neg (by omega), if_neg (by omega)]
    · rw [if_pos h, if_neg h2]
    · rw [if_pos h, if_pos h2]
    · rw [if_neg (by omega), if_pos h]
    · rw [if_neg (by omega), if_neg (by omega), if_pos h, h2]
    · rw [if_neg (by omega), if_neg (by omega), if_pos h]; omega
  · obtain ⟨rfl, rfl⟩ := hq.1.2 hc
    exact ⟨rng_0, fun z => absurd rfl z, fun _ => ⟨fun z => absurd z hc, fun _ => ⟨rfl, rfl⟩⟩⟩
set_option maxRecDepth 100000 in
set_option maxHeartbeats 4000000 in
theorem bk_X8_off_0 {X : gX} {G : gG} (hX : gOk X G cX8_off 3 RX8 (some .int) 6) {Q : Int → gS → Prop} (hE : gEnd X G (gPi (fun v s' => Q v s' ∧ gRg s'))) (s : gS) (hs : gRg s) (x1 : Int) (x2 : Int)  (h : (rng x1) ∧ (rng x2) ∧ (mV s) ∧ (∀ (v6 : Int) (s4 : gS), (((((0 ≤ x1 ∧ x1 ≤ 9) ∧ 0 ≤ x2 ∧ x2 < s.2 401 (s.2 404 x1)) → v6 = 1 ∧ ∃ w : Int, mlays s s4 x1 w) ∧ (¬ ((0 ≤ x1 ∧ x1 ≤ 9) ∧ 0 ≤ x2 ∧ x2 < s.2 401 (s.2 404 x1)) → v6 = 0 ∧ s4 = s)) ∧ gRg s4) → (rng v6) ∧ ((v6 = 0 → Q (-100000) s4) ∧ (¬ (v6 = 0) → (0 ≤ x2 ∧ x2 < 24) ∧ (((s4.2 416 x2) = 0 → Q (-100000) s4) ∧ (¬ ((s4.2 416 x2) = 0) → Q (s4.2 415 x2) s4)))))) : gWL X G s 0 [(0, gR G 400), (1, vi x1), (2, vi x2)] [] := by
  refine g_aload_n hX dX8_off_0 0 rfl ?_
  refine g_iload_n hX dX8_off_1 1 rfl ?_
  refine g_iload_n hX dX8_off_2 2 rfl ?_
  obtain ⟨h1, h⟩ := h
  obtain ⟨h2, h⟩ := h
  obtain ⟨h3, h⟩ := h
  refine g_cVr (As := [vi x1, vi x2]) hX (fun l => c_X8_isNote l hX.inj s x1 x2 hs h1 h2 h3) sh_400 cv_X8_133 (by decide) rfl (Nat.le_of_ble_eq_true rfl) dX8_off_3 rfl (fun v6 s4 q5 => ?_)
  replace h := h v6 s4 q5
  have rs4 : gRg s4 := q5.2
  obtain ⟨h7, h⟩ := h
  refine g_ifeq (tgt := 27) hX h7 dX8_off_6 (by decide) (fun c8 => ?_) (fun c8 => ?_)
  · replace h := h.1 c8
    refine g_ldc (n := (-100000)) hX ldc_X8_140 dX8_off_27 rfl ?_
    exact g_iret hX hE dX8_off_29 ⟨h, rs4⟩
  · replace h := h.2 c8
    refine g_aload_n hX dX8_off_9 0 rfl ?_
    refine g_getR hX sh_400 15 rfl fl_X8_56 dX8_off_10 ?_
    refine g_iload_n hX dX8_off_13 2 rfl ?_
    obtain ⟨h9, h⟩ := h
    refine g_zald hX sh_416 h9 (by decide) dX8_off_14 ?_
    refine g_ifeq (tgt := 27) hX (rs4.2 _ _) dX8_off_15 (by decide) (fun c10 => ?_) (fun c10 => ?_)
    · replace h := h.1 c10
      refine g_ldc (n := (-100000)) hX ldc_X8_140 dX8_off_27 rfl ?_
      exact g_iret hX hE dX8_off_29 ⟨h, rs4⟩
    · replace h := h.2 c10
      refine g_aload_n hX dX8_off_18 0 rfl ?_
      refine g_getR hX sh_400 14 rfl fl_X8_53 dX8_off_19 ?_
      refine g_iload_n hX dX8_off_22 2 rfl ?_
      refine g_iald hX sh_415 h9 (by decide) dX8_off_23 ?_
      refine g_goto (tgt := 29) hX dX8_off_24 (by decide) ?_
      exact g_iret hX hE dX8_off_29 ⟨h, rs4⟩
set_option maxRecDepth 100000 in
set_option maxHeartbeats 4000000 in
theorem c_X8_off (l : Launch) {G : gG} (hG : gInj G) (s : gS) (x1 : Int) (x2 : Int) (p0 : gRg s) (p1 : rng x1) (p2 : rng x2) (p3 : mV s) : gMet l G yX8_off cX8_off 3 (some .int) 6 [gR G 400, vi x1, vi x2] s (gPi (fun v s' => ((((0 ≤ x1 ∧ x1 ≤ 9) ∧ 0 ≤ x2 ∧ x2 < s.2 401 (s.2 404 x1)) → (∃ w : Int, mlays s s' x1 w) ∧ v = if s'.2 416 x2 = 0 then -100000 else s'.2 415 x2) ∧ (¬ ((0 ≤ x1 ∧ x1 ≤ 9) ∧ 0 ≤ x2 ∧ x2 < s.2 401 (s.2 404 x1)) → v = -100000 ∧ s' = s)) ∧ gRg s')) := by
  refine gMet_of (plainFor_of_name (by decide)) hG (Nat.le_of_ble_eq_true rfl) (fun X hX hE => ?_)
  refine bk_X8_off_0 hX hE s p0 x1 x2  ?_
  refine ⟨p1, p2, p3, fun v u hq => ?_⟩
  by_cases hc : ((0 ≤ x1 ∧ x1 ≤ 9) ∧ 0 ≤ x2 ∧ x2 < s.2 401 (s.2 404 x1))
  · obtain ⟨rfl, w, hw⟩ := hq.1.1 hc
    have hrr := p3.2.1 x1 (by omega) (by omega)
    have hnb := (p3.2.2 _ hrr.1.1 hrr.1.2).1
    exact ⟨rng_of (by omega) (by omega), fun z => by omega, fun _ => ⟨by omega, fun h => ⟨fun _ => ⟨⟨w, hw⟩, by rw [if_pos h]⟩, fun z => absurd hc z⟩, fun h => ⟨fun _ => ⟨⟨w, hw⟩, by rw [if_neg h]⟩, fun z => absurd hc z⟩⟩⟩
  · obtain ⟨rfl, rfl⟩ := hq.1.2 hc
    exact ⟨rng_0, fun _ => ⟨fun z => absurd z hc, fun _ => ⟨rfl, rfl⟩⟩, fun z => absurd rfl z⟩
set_option maxRecDepth 100000 in
set_option maxHeartbeats 4000000 in
theorem bk_X8_told_0 {X : gX} {G : gG} (hX : gOk X G cX8_told 8 RX8 (some .int) 6) {Q : Int → gS → Prop} (hE : gEnd X G (gPi (fun v s' => Q v s' ∧ gRg s'))) (s : gS) (hs : gRg s) (x1 : Int) (x2 : Int)  (h : (rng x1) ∧ ((¬ (0 ≤ x1 ∧ x1 ≤ 9) → Q (-100000) s) ∧ (0 ≤ x1 ∧ x1 ≤ 9 → (rng x2) ∧ ((x2 = 0 → (0 ≤ x1 ∧ x1 < 10) ∧ (mV s) ∧ (∀ (v10 : Int) (s8 : gS), ((mlays s s8 x1 v10) ∧ gRg s8) → (rng v10) ∧ ((¬ v10 = (-1) → (0 ≤ (s8.2 404 x1) ∧ (s8.2 404 x1) < 6) ∧ gWL X G s8 52 [(0, gR G 400), (2, vi x2), (3, vi (s8.2 401 (s8.2 404 x1))), (4, vi 0), (5, vi (-1)), (6, vi (-1)), (7, vi 0)] []) ∧ (v10 = (-1) → Q (-100000) s8)))) ∧ (¬ (x2 = 0) → ((¬ x2 = 1 → Q (-100000) s) ∧ (x2 = 1 → (0 ≤ x1 ∧ x1 < 10) ∧ (mV s) ∧ (∀ (v19 : Int) (s17 : gS), ((mlays s s17 x1 v19) ∧ gRg s17) → (rng v19) ∧ ((¬ v19 = (-1) → (0 ≤ (s17.2 404 x1) ∧ (s17.2 404 x1) < 6) ∧ gWL X G s17 52 [(0, gR G 400), (2, vi x2), (3, vi (s17.2 401 (s17.2 404 x1))), (4, vi 0), (5, vi (-1)), (6, vi (-1)), (7, vi 0)] []) ∧ (v19 = (-1) → Q (-100000) s17)))))))))) : gWL X G s 0 [(0, gR G 400), (1, vi x1), (2, vi x2)] [] := by
  refine g_iload_n hX dX8_told_0 1 rfl ?_
  obtain ⟨h1, h⟩ := h
  refine g_cSf (As := [vi x1]) hX (fun l => c_X8_isRecording l hX.inj s x1 hs h1) cv_X8_106 (by decide) rfl (Nat.le_of_ble_eq_true rfl) dX8_told_1 rfl (fun g2 => ?_)
  refine g_ifeq (tgt := 25) hX (gb_rng _) dX8_told_4 (by decide) (fun c3 => ?_) (fun c3 => ?_)
  · replace h := h.1 (gb_eq0.mp c3)
    refine g_ldc (n := (-100000)) hX ldc_X8_140 dX8_told_25 rfl ?_
    exact g_iret hX hE dX8_told_27 ⟨h, hs⟩
  · replace h := h.2 (gb_n0.mp c3)
    refine g_iload_n hX dX8_told_7 2 rfl ?_
    obtain ⟨h4, h⟩ := h
    refine g_ifeq (tgt := 16) hX h4 dX8_told_8 (by decide) (fun c5 => ?_) (fun c5 => ?_)
    · replace h := h.1 c5
      refine g_aload_n hX dX8_told_16 0 rfl ?_
      refine g_iload_n hX dX8_told_17 1 rfl ?_
      obtain ⟨h6, h⟩ := h
      obtain ⟨h7, h⟩ := h
      refine g_cVr (As := [vi x1]) hX (fun l => c_X8_lays l hX.inj s x1 hs h6 h7) sh_400 cv_X8_129 (by decide) rfl (Nat.le_of_ble_eq_true rfl) dX8_told_18 rfl (fun v10 s8 q9 => ?_)
      replace h := h v10 s8 q9
      have rs8 : gRg s8 := q9.2
      refine g_iconst hX dX8_told_21 ?_
      obtain ⟨h11, h⟩ := h
      refine g_icne (tgt := 28) hX h11 (by unfold rng; omega) dX8_told_22 (by decide) (fun c12 => ?_) (fun c12 => ?_)
      · replace h := h.1 c12
        refine g_aload_n hX dX8_told_28 0 rfl ?_
        refine g_getR hX sh_400 0 rfl fl_X8_7 dX8_told_29 ?_
        refine g_aload_n hX dX8_told_32 0 rfl ?_
        refine g_getR hX sh_400 3 rfl fl_X8_19 dX8_told_33 ?_
        refine g_iload_n hX dX8_told_36 1 rfl ?_
        refine g_iald hX sh_404 h6 (by decide) dX8_told_37 ?_
        obtain ⟨h13, h⟩ := h
        refine g_iald hX sh_401 h13 (by decide) dX8_told_38 ?_
        refine g_istore_n (loc' := [(3, vi (s8.2 401 (s8.2 404 x1))), (0, gR G 400), (1, vi x1), (2, vi x2)]) hX dX8_told_39 (by decide) rfl ?_
        refine g_iconst hX dX8_told_40 ?_
        refine g_istore (loc' := [(4, vi 0), (3, vi (s8.2 401 (s8.2 404 x1))), (0, gR G 400), (1, vi x1), (2, vi x2)]) hX dX8_told_41 (by decide) rfl ?_
        refine g_iconst hX dX8_told_43 ?_
        refine g_istore (loc' := [(5, vi (-1)), (4, vi 0), (3, vi (s8.2 401 (s8.2 404 x1))), (0, gR G 400), (1, vi x1), (2, vi x2)]) hX dX8_told_44 (by decide) rfl ?_
        refine g_iconst hX dX8_told_46 ?_
        refine g_istore (loc' := [(6, vi (-1)), (5, vi (-1)), (4, vi 0), (3, vi (s8.2 401 (s8.2 404 x1))), (0, gR G 400), (1, vi x1), (2, vi x2)]) hX dX8_told_47 (by decide) rfl ?_
        refine g_iconst hX dX8_told_49 ?_
        refine g_istore (loc' := [(7, vi 0), (6, vi (-1)), (5, vi (-1)), (4, vi 0), (3, vi (s8.2 401 (s8.2 404 x1))), (0, gR G 400), (1, vi x1), (2, vi x2)]) hX dX8_told_50 (by decide) rfl ?_
        exact g_sub [5, 7, 4, 3, 2, 1, 0] rfl h
      · replace h := h.2 (gnn c12)
        refine g_ldc (n := (-100000)) hX ldc_X8_140 dX8_told_25 rfl ?_
        exact g_iret hX hE dX8_told_27 ⟨h, rs8⟩
    · replace h := h.2 c5
      refine g_iload_n hX dX8_told_11 2 rfl ?_
      refine g_iconst hX dX8_told_12 ?_
      refine g_icne (tgt := 25) hX h4 (by unfold rng; omega) dX8_told_13 (by decide) (fun c14 => ?_) (fun c14 => ?_)
      · replace h := h.1 c14
        refine g_ldc (n := (-100000)) hX ldc_X8_140 dX8_told_25 rfl ?_
        exact g_iret hX hE dX8_told_27 ⟨h, hs⟩
      · replace h := h.2 (gnn c14)
        refine g_aload_n hX dX8_told_16 0 rfl ?_
        refine g_iload_n hX dX8_told_17 1 rfl ?_
        obtain ⟨h15, h⟩ := h
        obtain ⟨h16, h⟩ := h
        refine g_cVr (As := [vi x1]) hX (fun l => c_X8_lays l hX.inj s x1 hs h15 h16) sh_400 cv_X8_129 (by decide) rfl (Nat.le_of_ble_eq_true rfl) dX8_told_18 rfl (fun v19 s17 q18 => ?_)
        replace h := h v19 s17 q18
        have rs17 : gRg s17 := q18.2
        refine g_iconst hX dX8_told_21 ?_
        obtain ⟨h20, h⟩ := h
        refine g_icne (tgt := 28) hX h20 (by unfold rng; omega) dX8_told_22 (by decide) (fun c21 => ?_) (fun c21 => ?_)
        · replace h := h.1 c21
          refine g_aload_n hX dX8_told_28 0 rfl ?_
          refine g_getR hX sh_400 0 rfl fl_X8_7 dX8_told_29 ?_
          refine g_aload_n hX dX8_told_32 0 rfl ?_
          refine g_getR hX sh_400 3 rfl fl_X8_19 dX8_told_33 ?_
          refine g_iload_n hX dX8_told_36 1 rfl ?_
          refine g_iald hX sh_404 h15 (by decide) dX8_told_37 ?_
          obtain ⟨h22, h⟩ := h
          refine g_iald hX sh_401 h22 (by decide) dX8_told_38 ?_
          refine g_istore_n (loc' := [(3, vi (s17.2 401 (s17.2 404 x1))), (0, gR G 400), (1, vi x1), (2, vi x2)]) hX dX8_told_39 (by decide) rfl ?_
          refine g_iconst hX dX8_told_40 ?_
          refine g_istore (loc' := [(4, vi 0), (3, vi (s17.2 401 (s17.2 404 x1))), (0, gR G 400), (1, vi x1), (2, vi x2)]) hX dX8_told_41 (by decide) rfl ?_
          refine g_iconst hX dX8_told_43 ?_
          refine g_istore (loc' := [(5, vi (-1)), (4, vi 0), (3, vi (s17.2 401 (s17.2 404 x1))), (0, gR G 400), (1, vi x1), (2, vi x2)]) hX dX8_told_44 (by decide) rfl ?_
          refine g_iconst hX dX8_told_46 ?_
          refine g_istore (loc' := [(6, vi (-1)), (5, vi (-1)), (4, vi 0), (3, vi (s17.2 401 (s17.2 404 x1))), (0, gR G 400), (1, vi x1), (2, vi x2)]) hX dX8_told_47 (by decide) rfl ?_
          refine g_iconst hX dX8_told_49 ?_
          refine g_istore (loc' := [(7, vi 0), (6, vi (-1)), (5, vi (-1)), (4, vi 0), (3, vi (s17.2 401 (s17.2 404 x1))), (0, gR G 400), (1, vi x1), (2, vi x2)]) hX dX8_told_50 (by decide) rfl ?_
          exact g_sub [5, 7, 4, 3, 2, 1, 0] rfl h
        · replace h := h.2 (gnn c21)
          refine g_ldc (n := (-100000)) hX ldc_X8_140 dX8_told_25 rfl ?_
          exact g_iret hX hE dX8_told_27 ⟨h, rs17⟩
set_option maxRecDepth 100000 in
set_option maxHeartbeats 4000000 in
theorem bk_X8_told_52 {X : gX} {G : gG} (hX : gOk X G cX8_told 8 RX8 (some .int) 6) {Q : Int → gS → Prop} (hE : gEnd X G (gPi (fun v s' => Q v s' ∧ gRg s'))) (s : gS) (hs : gRg s) (x2 : Int) (x3 : Int) (x4 : Int) (x5 : Int) (x6 : Int) (x7 : Int)  (h : (rng x7) ∧ (rng x3) ∧ ((x3 ≤ x7 → (rng x2) ∧ ((¬ x2 = 1 → (rng x5) ∧ ((¬ x5 = (-1) → (0 ≤ x5 ∧ x5 < 24) ∧ (0 ≤ x6 ∧ x6 < 24) ∧ Q ((s.2 415 x5) - (s.2 415 x6)) s) ∧ (x5 = (-1) → Q 0 s))) ∧ (x2 = 1 → Q x4 s))) ∧ (x7 < x3 → (0 ≤ x7 ∧ x7 < 24) ∧ (mOb s x7) ∧ (rng (mfl s x7)) ∧ (((mfl s x7) = 0 → ((¬ (s.2 416 x7) = 0 → (rng x5) ∧ ((¬ x5 = (-1) → gWL X G s 52 [(0, gR G 400), (2, vi x2), (3, vi x3), (4, vi x4), (5, vi x5), (6, vi x7), (7, vi (x7 + 1))] []) ∧ (x5 = (-1) → gWL X G s 52 [(0, gR G 400), (2, vi x2), (3, vi x3), (4, vi x4), (5, vi x7), (6, vi x7), (7, vi (x7 + 1))] []))) ∧ ((s.2 416 x7) = 0 → gWL X G s 52 [(0, gR G 400), (2, vi x2), (3, vi x3), (4, vi x4), (5, vi x5), (6, vi x6), (7, vi (x7 + 1))] []))) ∧ (¬ ((mfl s x7) = 0) → ((¬ (s.2 416 x7) = 0 → (rng x5) ∧ ((¬ x5 = (-1) → gWL X G s 52 [(0, gR G 400), (2, vi x2), (3, vi x3), (4, vi (x4 + 1)), (5, vi x5), (6, vi x7), (7, vi (x7 + 1))] []) ∧ (x5 = (-1) → gWL X G s 52 [(0, gR G 400), (2, vi x2), (3, vi x3), (4, vi (x4 + 1)), (5, vi x7), (6, vi x7), (7, vi (x7 + 1))] []))) ∧ ((s.2 416 x7) = 0 → gWL X G s 52 [(0, gR G 400), (2, vi x2), (3, vi x3), (4, vi (x4 + 1)), (5, vi x5), (6, vi x6), (7, vi (x7 + 1))] []))))))) : gWL X G s 52 [(0, gR G 400), (2, vi x2), (3, vi x3), (4, vi x4), (5, vi x5), (6, vi x6), (7, vi x7)] [] := by
  refine g_iload hX dX8_told_52 6 rfl ?_
  refine g_iload_n hX dX8_told_54 2 rfl ?_
  obtain ⟨h1, h⟩ := h
  obtain ⟨h2, h⟩ := h
  refine g_icge (tgt := 103) hX h1 h2 dX8_told_55 (by decide) (fun c3 => ?_) (fun c3 => ?_)
  · replace h := h.1 c3
    refine g_iload_n hX dX8_told_103 1 rfl ?_
    refine g_iconst hX dX8_told_104 ?_
    obtain ⟨h4, h⟩ := h
    refine g_icne (tgt := 113) hX h4 (by unfold rng; omega) dX8_told_105 (by decide) (fun c5 => ?_) (fun c5 => ?_)
    · replace h := h.1 c5
      refine g_iload hX dX8_told_113 4 rfl ?_
      refine g_iconst hX dX8_told_115 ?_
      obtain ⟨h6, h⟩ := h
      refine g_icne (tgt := 123) hX h6 (by unfold rng; omega) dX8_told_116 (by decide) (fun c7 => ?_) (fun c7 => ?_)
      · replace h := h.1 c7
        refine g_aload_n hX dX8_told_123 0 rfl ?_
        refine g_getR hX sh_400 14 rfl fl_X8_53 dX8_told_124 ?_
        refine g_iload hX dX8_told_127 4 rfl ?_
        obtain ⟨h8, h⟩ := h
        refine g_iald hX sh_415 h8 (by decide) dX8_told_129 ?_
        refine g_aload_n hX dX8_told_130 0 rfl ?_
        refine g_getR hX sh_400 14 rfl fl_X8_53 dX8_told_131 ?_
        refine g_iload hX dX8_told_134 5 rfl ?_
        obtain ⟨h9, h⟩ := h
        refine g_iald hX sh_415 h9 (by decide) dX8_told_136 ?_
        refine g_isub hX dX8_told_137 ?_
        exact g_iret hX hE dX8_told_138 ⟨h, hs⟩
      · replace h := h.2 (gnn c7)
        refine g_iconst hX dX8_told_119 ?_
        refine g_goto (tgt := 138) hX dX8_told_120 (by decide) ?_
        exact g_iret hX hE dX8_told_138 ⟨h, hs⟩
    · replace h := h.2 (gnn c5)
      refine g_iload hX dX8_told_108 3 rfl ?_
      refine g_goto (tgt := 138) hX dX8_told_110 (by decide) ?_
      exact g_iret hX hE dX8_told_138 ⟨h, hs⟩
  · replace h := h.2 (Int.not_le.mp c3)
    refine g_aload_n hX dX8_told_58 0 rfl ?_
    refine g_iload hX dX8_told_59 6 rfl ?_
    obtain ⟨h10, h⟩ := h
    obtain ⟨h11, h⟩ := h
    refine g_cVf (As := [vi x7]) hX (fun l => c_X8_isFault l hX.inj s x7 hs h10 h11) sh_400 cv_X8_137 (by decide) rfl (Nat.le_of_ble_eq_true rfl) dX8_told_61 rfl (fun g12 => ?_)
    obtain ⟨h13, h⟩ := h
    refine g_ifeq (tgt := 70) hX h13 dX8_told_64 (by decide) (fun c14 => ?_) (fun c14 => ?_)
    · replace h := h.1 c14
      refine g_aload_n hX dX8_told_70 0 rfl ?_
      refine g_getR hX sh_400 15 rfl fl_X8_56 dX8_told_71 ?_
      refine g_iload hX dX8_told_74 6 rfl ?_
      refine g_zald hX sh_416 h10 (by decide) dX8_told_76 ?_
      refine g_ifne (tgt := 83) hX (hs.2 _ _) dX8_told_77 (by decide) (fun c15 => ?_) (fun c15 => ?_)
      · replace h := h.1 c15
        refine g_iload hX dX8_told_83 4 rfl ?_
        refine g_iconst hX dX8_told_85 ?_
        obtain ⟨h16, h⟩ := h
        refine g_icne (tgt := 93) hX h16 (by unfold rng; omega) dX8_told_86 (by decide) (fun c17 => ?_) (fun c17 => ?_)
        · replace h := h.1 c17
          refine g_iload hX dX8_told_93 6 rfl ?_
          refine g_istore (loc' := [(6, vi x7), (0, gR G 400), (2, vi x2), (3, vi x3), (4, vi x4), (5, vi x5), (7, vi x7)]) hX dX8_told_95 (by decide) rfl ?_
          refine g_iinc (loc' := [(7, vi (x7 + 1)), (6, vi x7), (0, gR G 400), (2, vi x2), (3, vi x3), (4, vi x4), (5, vi x5)]) hX dX8_told_97 6 rfl (by decide) rfl ?_
          refine g_goto (tgt := 52) hX dX8_told_100 (by decide) ?_
          exact g_sub [2, 3, 4, 5, 6, 1, 0] rfl h
        · replace h := h.2 (gnn c17)
          refine g_iload hX dX8_told_89 6 rfl ?_
          refine g_istore (loc' := [(5, vi x7), (0, gR G 400), (2, vi x2), (3, vi x3), (4, vi x4), (6, vi x6), (7, vi x7)]) hX dX8_told_91 (by decide) rfl ?_
          refine g_iload hX dX8_told_93 6 rfl ?_
          refine g_istore (loc' := [(6, vi x7), (5, vi x7), (0, gR G 400), (2, vi x2), (3, vi x3), (4, vi x4), (7, vi x7)]) hX dX8_told_95 (by decide) rfl ?_
          refine g_iinc (loc' := [(7, vi (x7 + 1)), (6, vi x7), (5, vi x7), (0, gR G 400), (2, vi x2), (3, vi x3), (4, vi x4)]) hX dX8_told_97 6 rfl (by decide) rfl ?_
          refine g_goto (tgt := 52) hX dX8_told_100 (by decide) ?_
          exact g_sub [3, 4, 5, 6, 2, 1, 0] rfl h
      · replace h := h.2 (gnn c15)
        refine g_goto (tgt := 97) hX dX8_told_80 (by decide) ?_
        refine g_iinc (loc' := [(7, vi (x7 + 1)), (0, gR G 400), (2, vi x2), (3, vi x3), (4, vi x4), (5, vi x5), (6, vi x6)]) hX dX8_told_97 6 rfl (by decide) rfl ?_
        refine g_goto (tgt := 52) hX dX8_told_100 (by decide) ?_
        exact g_sub [1, 2, 3, 4, 5, 6, 0] rfl h
    · replace h := h.2 c14
      refine g_iinc (loc' := [(4, vi (x4 + 1)), (0, gR G 400), (2, vi x2), (3, vi x3), (5, vi x5), (6, vi x6), (7, vi x7)]) hX dX8_told_67 3 rfl (by decide) rfl ?_
      refine g_aload_n hX dX8_told_70 1 rfl ?_
      refine g_getR hX sh_400 15 rfl fl_X8_56 dX8_told_71 ?_
      refine g_iload hX dX8_told_74 6 rfl ?_
      refine g_zald hX sh_416 h10 (by decide) dX8_told_76 ?_
      refine g_ifne (tgt := 83) hX (hs.2 _ _) dX8_told_77 (by decide) (fun c18 => ?_) (fun c18 => ?_)
      · replace h := h.1 c18
        refine g_iload hX dX8_told_83 4 rfl ?_
        refine g_iconst hX dX8_told_85 ?_
        obtain ⟨h19, h⟩ := h
        refine g_icne (tgt := 93) hX h19 (by unfold rng; omega) dX8_told_86 (by decide) (fun c20 => ?_) (fun c20 => ?_)
        · replace h := h.1 c20
          refine g_iload hX dX8_told_93 6 rfl ?_
          refine g_istore (loc' := [(6, vi x7), (4, vi (x4 + 1)), (0, gR G 400), (2, vi x2), (3, vi x3), (5, vi x5), (7, vi x7)]) hX dX8_told_95 (by decide) rfl ?_
          refine g_iinc (loc' := [(7, vi (x7 + 1)), (6, vi x7), (4, vi (x4 + 1)), (0, gR G 400), (2, vi x2), (3, vi x3), (5, vi x5)]) hX dX8_told_97 6 rfl (by decide) rfl ?_
          refine g_goto (tgt := 52) hX dX8_told_100 (by decide) ?_
          exact g_sub [3, 4, 5, 2, 6, 1, 0] rfl h
        · replace h := h.2 (gnn c20)
          refine g_iload hX dX8_told_89 6 rfl ?_
          refine g_istore (loc' := [(5, vi x7), (4, vi (x4 + 1)), (0, gR G 400), (2, vi x2), (3, vi x3), (6, vi x6), (7, vi x7)]) hX dX8_told_91 (by decide) rfl ?_
          refine g_iload hX dX8_told_93 6 rfl ?_
          refine g_istore (loc' := [(6, vi x7), (5, vi x7), (4, vi (x4 + 1)), (0, gR G 400), (2, vi x2), (3, vi x3), (7, vi x7)]) hX dX8_told_95 (by decide) rfl ?_
          refine g_iinc (loc' := [(7, vi (x7 + 1)), (6, vi x7), (5, vi x7), (4, vi (x4 + 1)), (0, gR G 400), (2, vi x2), (3, vi x3)]) hX dX8_told_97 6 rfl (by decide) rfl ?_
          refine g_goto (tgt := 52) hX dX8_told_100 (by decide) ?_
          exact g_sub [4, 5, 6, 3, 2, 1, 0] rfl h
      · replace h := h.2 (gnn c18)
        refine g_goto (tgt := 97) hX dX8_told_80 (by decide) ?_
        refine g_iinc (loc' := [(7, vi (x7 + 1)), (4, vi (x4 + 1)), (0, gR G 400), (2, vi x2), (3, vi x3), (5, vi x5), (6, vi x6)]) hX dX8_told_97 6 rfl (by decide) rfl ?_
        refine g_goto (tgt := 52) hX dX8_told_100 (by decide) ?_
        exact g_sub [2, 3, 4, 1, 5, 6, 0] rfl h
set_option maxRecDepth 100000 in
set_option maxHeartbeats 4000000 in
theorem c_X8_told (l : Launch) {G : gG} (hG : gInj G) (s : gS) (x1 : Int) (x2 : Int) (p0 : gRg s) (p1 : rng x1) (p2 : rng x2) (p3 : mV s) : gMet l G yX8_told cX8_told 8 (some .int) 6 [gR G 400, vi x1, vi x2] s (gPi (fun v s' => ((((0 ≤ x1 ∧ x1 ≤ 9) ∧ (x2 = 0 ∨ x2 = 1) ∧ ¬ s.2 401 (s.2 404 x1) = 0) → (∃ w : Int, mlays s s' x1 w) ∧ v = if x2 = 1 then gsum (fun k => mfl s' k) (s.2 401 (s.2 404 x1)) else mstold s' (s.2 401 (s.2 404 x1))) ∧ (¬ ((0 ≤ x1 ∧ x1 ≤ 9) ∧ (x2 = 0 ∨ x2 = 1) ∧ ¬ s.2 401 (s.2 404 x1) = 0) → v = -100000 ∧ s' = s)) ∧ gRg s')) := by
  refine gMet_of (plainFor_of_name (by decide)) hG (Nat.le_of_ble_eq_true rfl) (fun X hX hE => ?_)
  refine bk_X8_told_0 hX hE s p0 x1 x2  ?_
  refine ⟨p1, fun a => ⟨fun z => absurd z.1 a, fun _ => ⟨rfl, rfl⟩⟩, fun a => ⟨p2, ?_⟩⟩
  have hrr := p3.2.1 x1 (by omega) (by omega)
  have hnb := (p3.2.2 _ hrr.1.1 hrr.1.2).1
  -- behind lays
  have hgo : (x2 = 0 ∨ x2 = 1) → ∀ (v : Int) (u : gS), ((mlays s u x1 v) ∧ gRg u) → (rng v) ∧ ((¬ v = (-1) → (0 ≤ (u.2 404 x1) ∧ (u.2 404 x1) < 6) ∧ gWL X G u 52 [(0, gR G 400), (2, vi x2), (3, vi (u.2 401 (u.2 404 x1))), (4, vi 0), (5, vi (-1)), (6, vi (-1)), (7, vi 0)] []) ∧ (v = (-1) → ((((0 ≤ x1 ∧ x1 ≤ 9) ∧ (x2 = 0 ∨ x2 = 1) ∧ ¬ s.2 401 (s.2 404 x1) = 0) → (∃ w : Int, mlays s u x1 w) ∧ (-100000 : Int) = if x2 = 1 then gsum (fun k => mfl u k) (s.2 401 (s.2 404 x1)) else mstold u (s.2 401 (s.2 404 x1))) ∧ (¬ ((0 ≤ x1 ∧ x1 ≤ 9) ∧ (x2 = 0 ∨ x2 = 1) ∧ ¬ s.2 401 (s.2 404 x1) = 0) → (-100000 : Int) = -100000 ∧ u = s)))) := by
    intro hx v u ⟨hq, hgu⟩
    by_cases hn : s.2 401 (s.2 404 x1) = 0
    · obtain ⟨rfl, rfl⟩ := hq.1 hn
      exact ⟨rng_of (by omega) (by omega), fun z => absurd rfl z, fun _ => ⟨fun z => absurd hn z.2.2, fun _ => ⟨rfl, rfl⟩⟩⟩
    · obtain ⟨⟨e1, e2⟩, -, hv⟩ := hq.2 hn
      have e404 : u.2 404 = s.2 404 := e2 _ (by decide)
      have e401 : u.2 401 = s.2 401 := e2 _ (by decide)
      have hob := mlays_ob (by omega) p3 hq hn
      refine ⟨rng_of (by omega) (by omega), fun _ => ⟨by rw [e404]; exact hrr.1, ?_⟩, fun z => by omega⟩
      rw [e404, e401]
      generalize s.2 401 (s.2 404 x1) = N at hnb hn hob hE ⊢
      refine gloop (α := Int × Int × Int) (hi := N) (fun i a => 0 ≤ i ∧ a.1 = gsum (fun k => mfl u k) i ∧ a.2.1 = mfr u i ∧ a.2.2 = mto u i ∧ ((a.2.1 = -1 ∧ a.2.2 = -1) ∨ ((0 ≤ a.2.1 ∧ a.2.1 < i) ∧ (0 ≤ a.2.2 ∧ a.2.2 < i)))) (fun i a => gWL X G u 52 [(0, gR G 400), (2, vi x2), (3, vi N), (4, vi a.1), (5, vi a.2.1), (6, vi a.2.2), (7, vi i)] []) ?_ ?_ 0 (0, -1, -1) hnb.1 ⟨by omega, rfl, rfl, rfl, Or.inl ⟨rfl, rfl⟩⟩
      · intro i ⟨f, fr, to⟩ hi ⟨i0, hf, hfr, hto, hft⟩ next
        dsimp only at hf hfr hto hft ⊢
        have h01 := mfl_01 u i
        have sfr : mfr u (i + 1) = if u.2 416 i = 0 then fr else if fr = -1 then i else fr := by unfold mfr; rw [giter_s _ _ i0, hfr]; rfl
        have sto : mto u (i + 1) = if u.2 416 i = 0 then to else i := by unfold mto; rw [giter_s _ _ i0, hto]; rfl
        have sf : gsum (fun k => mfl u k) (i + 1) = f + mfl u i := by rw [gsum_s _ i0, hf]
        have hn1 : ∀ f' : Int, f' = f + mfl u i → u.2 416 i = 0 → gWL X G u 52 [(0, gR G 400), (2, vi x2), (3, vi N), (4, vi f'), (5, vi fr), (6, vi to), (7, vi (i + 1))] [] := fun f' hf' h0 => next (f', fr, to) ⟨by omega, by show f' = _; rw [sf]; exact hf', by show fr = _; rw [sfr, if_pos h0], by show to = _; rw [sto, if_pos h0], by show (fr = -1 ∧ to = -1) ∨ ((0 ≤ fr ∧ fr < i + 1) ∧ (0 ≤ to ∧ to < i + 1)); omega⟩
        have hn2 : ∀ f' : Int, f' = f + mfl u i → ¬ u.2 416 i = 0 → ¬ fr = -1 → gWL X G u 52 [(0, gR G 400), (2, vi x2), (3, vi N), (4, vi f'), (5, vi fr), (6, vi i), (7, vi (i + 1))] [] := fun f' hf' h0 h1 => next (f', fr, i) ⟨by omega, by show f' = _; rw [sf]; exact hf', by show fr = _; rw [sfr, if_neg h0, if_neg h1], by show i = _; rw [sto, if_neg h0], by show (fr = -1 ∧ i = -1) ∨ ((0 ≤ fr ∧ fr < i + 1) ∧ (0 ≤ i ∧ i < i + 1)); omega⟩
        have hn3 : ∀ f' : Int, f' = f + mfl u i → ¬ u.2 416 i = 0 → fr = -1 → gWL X G u 52 [(0, gR G 400), (2, vi x2), (3, vi N), (4, vi f'), (5, vi i), (6, vi i), (7, vi (i + 1))] [] := fun f' hf' h0 h1 => next (f', i, i) ⟨by omega, by show f' = _; rw [sf]; exact hf', by show i = _; rw [sfr, if_neg h0, if_pos h1], by show i = _; rw [sto, if_neg h0], by show (i = -1 ∧ i = -1) ∨ ((0 ≤ i ∧ i < i + 1) ∧ (0 ≤ i ∧ i < i + 1)); omega⟩
        refine bk_X8_told_52 hX hE u hgu x2 N f fr to i ⟨rng_of (by omega) (by omega), rng_of (by omega) (by omega), fun h => by omega, fun _ => ⟨by omega, fun q q0 q1 => hob q q0 (by omega), rng_of (by omega) (by omega), fun h => ⟨fun h2 => ⟨rng_of (by omega) (by omega), fun h3 => hn2 f (by omega) h2 h3, fun h3 => hn3 f (by omega) h2 h3⟩, fun h2 => hn1 f (by omega) h2⟩, fun h => ⟨fun h2 => ⟨rng_of (by omega) (by omega), fun h3 => hn2 _ (by omega) h2 h3, fun h3 => hn3 _ (by omega) h2 h3⟩, fun h2 => hn1 _ (by omega) h2⟩⟩⟩
      · intro ⟨f, fr, to⟩ ⟨i0, hf, hfr, hto, hft⟩
        dsimp only at hf hfr hto hft ⊢
        refine bk_X8_told_52 hX hE u hgu x2 N f fr to N ⟨rng_of (by omega) (by omega), rng_of (by omega) (by omega), fun _ => ⟨p2, fun h => ⟨rng_of (by omega) (by omega), fun h2 => ⟨by omega, by omega, fun _ => ⟨⟨v, hq⟩, ?_⟩, fun z => absurd ⟨a, hx, hn⟩ z⟩, fun h2 => ⟨fun _ => ⟨⟨v, hq⟩, ?_⟩, fun z => absurd ⟨a, hx, hn⟩ z⟩⟩, fun h => ⟨fun _ => ⟨⟨v, hq⟩, ?_⟩, fun z => absurd ⟨a, hx, hn⟩ z⟩⟩, fun h => by omega⟩
        · rw [if_neg h]; unfold mstold; rw [← hfr, ← hto, if_neg h2]
        · rw [if_neg h]; unfold mstold; rw [← hfr, if_pos h2]
        · rw [if_pos h]; exact hf
  exact ⟨fun b => ⟨by omega, p3, hgo (Or.inl b)⟩, fun b => ⟨fun c => ⟨fun z => by omega, fun _ => ⟨rfl, rfl⟩⟩, fun c => ⟨by omega, p3, hgo (Or.inr c)⟩⟩⟩

