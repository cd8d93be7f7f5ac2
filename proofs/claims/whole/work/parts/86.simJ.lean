/-! ===== judges and places of both ===== -/
theorem hj_same {s : gS} (h : iJ s) {j : Int} (h0 : 0 ≤ j) (h1 : j < 9) : mhj s j = chj s j := by
  obtain ⟨a, b, c, d⟩ := h
  obtain ⟨c1, c2⟩ := c j h0 h1
  unfold mhj chj
  rw [decide_eq_decide, c1, b, c2]
  constructor
  · rintro ⟨x, y⟩; exact ⟨by rw [← y]; exact x, y⟩
  · rintro ⟨x, y⟩; exact ⟨by rw [y]; exact x, y⟩
theorem J_same {s : gS} (h : iJ s) : gJ (mhj s) = gJ (chj s) := gsum_congr (by omega) (fun j a b => by rw [hj_same h a b])
theorem C_same {s : gS} (h : iJ s) {c : Int} (c0 : 0 ≤ c) (c1 : c < 10) (k : Int) : gC (mhj s) (mrk s) c k = gC (chj s) (crk s) c k := gsum_congr (by omega) (fun j a b => by
  rw [hj_same h a b]; unfold mrk crk; rw [(h.2.2.2 j c a b c0 c1).1])
theorem T_same {s : gS} (h : iJ s) {c : Int} (c0 : 0 ≤ c) (c1 : c < 10) (k : Int) : gT (mhj s) (mrk s) c k = gT (chj s) (crk s) c k := gsum_congr (by omega) (fun j a b => by
  rw [hj_same h a b]; unfold mrk crk; rw [(h.2.2.2 j c a b c0 c1).1])
theorem iJ_gRk {s : gS} (h : iJ s) : gRk s := fun j c a b x y => (h.2.2.2 j c a b x y).2.1
theorem iJ_mRk {s : gS} (h : iJ s) : mRk s := fun i a b => by
  obtain ⟨e, z, -⟩ := h.2.2.2 (i / 10) (i % 10) (by omega) (by omega) (by omega) (by omega)
  rw [show (10 * (i / 10)) + i % 10 = i by omega] at e
  rw [e]; exact z
theorem sim_judges {s : gS} (h : iv s) : gjudges s = gJ (mhj s) := (J_same h.2.2.1).symm
theorem sim_ranks {s : gS} (h : iv s) (c k : Int) : (if ((0 ≤ c ∧ c ≤ 9) ∧ gbit (s.1 5 0) c = 1) ∧ 1 ≤ k then gcr s c k else -1) = (if ((0 ≤ c ∧ c ≤ 9) ∧ gbit (s.1 400 16) c = 1) ∧ 0 < k then gC (mhj s) (mrk s) c k else -1) := by
  have hJ := h.2.2.1
  rw [hJ.2.1]
  by_cases z : ((0 ≤ c ∧ c ≤ 9) ∧ gbit (s.1 5 0) c = 1) ∧ 1 ≤ k
  · rw [if_pos z, if_pos ⟨z.1, by omega⟩, C_same hJ z.1.1.1 (by omega)]; rfl
  · rw [if_neg z, if_neg (fun y => z ⟨y.1, by omega⟩)]
theorem gbits_gones {b : Int} (h0 : 0 ≤ b) (h1 : b < 4096) : gbits b = gones b := by
  rw [gbits_12 h0 h1, gones_n 12 (by omega) h0 h1]; rfl
theorem sim_sing {s t u : gS} {v w b : Int} (h : iv s) (h7 : if 1 ≤ b ∧ b ≤ 1023 then v = gbits b ∧ t = gpI s 5 0 b else v = -1 ∧ t = s) (h8 : if 1 ≤ b ∧ b ≤ 1023 then w = gones b ∧ u = gpI t 400 16 b else w = -1 ∧ u = t) (hu : gRg u) : v = w ∧ iv u := by
  by_cases z : 1 ≤ b ∧ b ≤ 1023
  · rw [if_pos z] at h7 h8
    obtain ⟨hr, iL', ⟨a1, a2, a3, a4⟩, iR', iT'⟩ := h
    obtain ⟨h7a, h7b⟩ := h7
    obtain ⟨h8a, h8b⟩ := h8
    have c1 : gchg (fun k j => (k = 5 ∧ j = 0)) (fun _ => False) s t := by
      rw [h7b]; exact (gchg.rf _ _ s).pI _ ⟨rfl, rfl⟩
    have c2 : gchg (fun k j => (k = 400 ∧ j = 16)) (fun _ => False) t u := by
      rw [h8b]; exact (gchg.rf _ _ t).pI _ ⟨rfl, rfl⟩
    have c3 := c1.trans c2
    refine ⟨by rw [h7a, h8a, gbits_gones (by omega) (by omega)], hu, c3.L (fun k j => by unfold fL; omega) (fun k => by simp) iL', ?_, c3.R (fun k j => by unfold fR; omega) (fun k => by simp) iR', c3.T (fun k j => by unfold fT; omega) (fun k => by simp) iT'⟩
    have u5 : u.1 5 0 = b := by rw [h8b]; show t.1 5 0 = _; rw [h7b]; rfl
    have u16 : u.1 400 16 = b := by rw [h8b]; rfl
    refine ⟨by omega, by omega, fun j x y => ?_, fun j c x y x' y' => ?_⟩
    · rw [c3.2 419 (by simp), c3.2 17 (by simp), c3.2 418 (by simp)]; exact a3 j x y
    · rw [c3.2 420 (by simp), c3.2 17 (by simp), c3.2 (300 + j) (by simp)]; exact a4 j c x y x' y'
  · rw [if_neg z] at h7 h8
    obtain ⟨h7a, h7b⟩ := h7
    obtain ⟨h8a, h8b⟩ := h8
    subst h7b
    subst h8b
    exact ⟨by omega, h⟩
/-! places -/
theorem gcmp_0 {hj : Int → Bool} {rk : Int → Int → Int} {o c n : Int} (ht : ∀ q : Int, n ≤ q → gC hj rk o q = gC hj rk c q ∧ gT hj rk o q = gT hj rk o n ∧ gT hj rk c q = gT hj rk c n) (e : gT hj rk o n = gT hj rk c n) : ∀ (d : Nat) (k : Int), n ≤ k → gcmp hj rk o c k d = 0
  | 0, k, _ => rfl
  | d + 1, k, hk => by
    obtain ⟨h1, h2, h3⟩ := ht k hk
    rw [gcmp_s, if_pos (by omega), if_pos (by omega)]
    exact gcmp_0 ht e d (k + 1) (by omega)
theorem gcmp_gag {hj : Int → Bool} {rk : Int → Int → Int} {o c n : Int} (ht : ∀ q : Int, n ≤ q → gC hj rk o q = gC hj rk c q ∧ gT hj rk o q = gT hj rk o n ∧ gT hj rk c q = gT hj rk c n) (d : Nat) : ∀ (m : Nat) (k : Int), k + m = n + 1 → 1 ≤ m → (gcmp hj rk o c k (m + d) = 1 ↔ gag hj rk o c k m < 0)
  | 0, k, _, h => by omega
  | m + 1, k, hk, _ => by
    rw [show m + 1 + d = (m + d) + 1 by omega, gcmp_s, gag_s]
    by_cases c1 : gC hj rk o k - gC hj rk c k = 0
    · rw [if_pos c1, if_pos (show gC hj rk c k - gC hj rk o k = 0 by omega)]
      by_cases c2 : gT hj rk c k - gT hj rk o k = 0
      · rw [if_pos c2, if_pos (show gT hj rk o k - gT hj rk c k = 0 by omega)]
        by_cases c3 : m = 0
        · subst c3
          have hkn : k = n := by omega
          subst hkn
          rw [show 0 + d = d by omega, gcmp_0 ht (by omega) d (k + 1) (by omega)]
          show (0 : Int) = 1 ↔ (0 : Int) < 0
          omega
        · exact gcmp_gag ht d m (k + 1) (by omega) (by omega)
      · rw [if_neg c2, if_neg (show ¬ gT hj rk o k - gT hj rk c k = 0 by omega), gb_1]
        omega
    · rw [if_neg c1, if_neg (show ¬ gC hj rk c k - gC hj rk o k = 0 by omega), gb_1]
      omega
theorem gag_congr {hj hj' : Int → Bool} {rk rk' : Int → Int → Int} {a b : Int} (h1 : ∀ q, gC hj rk a q = gC hj' rk' a q) (h2 : ∀ q, gC hj rk b q = gC hj' rk' b q) (h3 : ∀ q, gT hj rk a q = gT hj' rk' a q) (h4 : ∀ q, gT hj rk b q = gT hj' rk' b q) : ∀ (n : Nat) (q : Int), gag hj rk a b q n = gag hj' rk' a b q n
  | 0, q => rfl
  | n + 1, q => by
    rw [gag_s, gag_s, h1, h2, h3, h4, gag_congr h1 h2 h3 h4 n (q + 1)]
theorem gfst_more {P : Int → Bool} : ∀ (n : Nat) (k : Int), gfst P k (n + 1) ≤ k + n → gfst P k n = gfst P k (n + 1)
  | 0, k, h => by
    have := (gfst_bd P (0 + 1) k).1
    show k = gfst P k (0 + 1)
    have e0 : ((0 : Nat) : Int) = 0 := rfl
    rw [e0] at h
    omega
  | n + 1, k, h => by
    rw [gfst_s P k n, gfst_s P k (n + 1)]
    rw [gfst_s P k (n + 1)] at h
    by_cases c : P k = true
    · rw [if_pos c, if_pos c]
    · rw [if_neg c] at h ⊢
      rw [if_neg c]
      exact gfst_more n (k + 1) (by omega)
theorem gfst_le {P : Int → Bool} : ∀ (n : Nat) (k j : Int), k ≤ j → j < k + n → P j = true → gfst P k n ≤ j
  | 0, k, j, h1, h2, _ => by omega
  | n + 1, k, j, h1, h2, hp => by
    rw [gfst_s]
    by_cases c : P k = true
    · rw [if_pos c]; exact h1
    · rw [if_neg c]
      have : ¬ j = k := fun e => c (by rw [← e]; exact hp)
      exact gfst_le n (k + 1) j (by omega) (by omega) hp
theorem sim_place {s u : gS} {w c : Int} (h : iv s) (h8 : mplaceQ s c w u) (hu : gRg u) : (if ((0 ≤ c ∧ c ≤ 9) ∧ gbit (s.1 5 0) c = 1) ∧ ¬ gjudges s = 0 then gplace s c else -1) = w ∧ iv u := by
  have hJ := h.2.2.1
  unfold mplaceQ at h8
  rw [hJ.2.1, J_same hJ] at h8
  by_cases z : ((0 ≤ c ∧ c ≤ 9) ∧ gbit (s.1 5 0) c = 1) ∧ ¬ gjudges s = 0
  · have z' : ((0 ≤ c ∧ c ≤ 9) ∧ gbit (s.1 5 0) c = 1) ∧ ¬ gJ (chj s) = 0 := z
    rw [if_pos z'] at h8
    rw [if_pos z]
    obtain ⟨hw, ho1, ho2⟩ := h8
    have c3 : gchg (fun _ _ => False) (fun k => k = 421) s u := ⟨fun k j _ => by rw [ho1], fun k hk => ho2 k hk⟩
    refine ⟨?_, hu, c3.L (fun k j => by simp) (fun k => by unfold aL; omega) h.2.1, c3.J (fun k j => by simp) (fun k => by unfold aJ; omega) hJ, c3.R (fun k j => by simp) (fun k => by unfold aR; omega) h.2.2.2.1, c3.T (fun k j => by simp) (fun k => by unfold aT; omega) h.2.2.2.2⟩
    rw [hw]
    have hJ0 : 1 ≤ gJ (chj s) := by have := gJ_bd (chj s); have := z'.2; omega
    have hsg := hJ.1
    have hn := gones_10 hsg.1 (by omega)
    have hn1 : 1 ≤ gones (s.1 5 0) := by
      have h0 := gones_n (b := s.1 5 0) 10 (by omega) hsg.1 (by have : ((2 ^ 10 : Nat) : Int) = 1024 := rfl; omega)
      have h1 := gsum_shift (fun k => gbit (s.1 5 0) k) (i := c) z.1.1.1 1 (by omega)
      have h2 : gsum (fun q => gbit (s.1 5 0) (c + q)) 1 = gbit (s.1 5 0) c := by
        rw [show (1 : Int) = 0 + 1 by omega, gsum_s _ (by omega), gsum_0, show c + 0 = c by omega]; omega
      have h3 := gsum_bd (f := fun k => gbit (s.1 5 0) k) (n := c) (lo := 0) (hi := 1) z.1.1.1 (fun i a b => by have := gbit01 (b := s.1 5 0) (i := i) a (by omega); omega)
      have h4 := gsum_shift (fun k => gbit (s.1 5 0) k) (i := c + 1) (by omega) (10 - (c + 1)) (by omega)
      have h5 := gsum_bd (f := fun q => gbit (s.1 5 0) (c + 1 + q)) (n := 10 - (c + 1)) (lo := 0) (hi := 1) (by omega) (fun i a b => by have := gbit01 (b := s.1 5 0) (i := c + 1 + i) (by omega) (by omega); omega)
      rw [show c + 1 + (10 - (c + 1)) = 10 by omega] at h4
      have e10 : ((10 : Nat) : Int) = 10 := rfl
      rw [e10] at h0
      have := z.1.2
      omega
    have hrk : ∀ o : Int, 0 ≤ o → o < 10 → gbit (s.1 5 0) o = 1 → ∀ j : Int, 0 ≤ j → j < 9 → chj s j = true → crk s j o ≤ gones (s.1 5 0) := fun o o0 o1 ho j j0 j1 hc => by
      have hc' := of_decide_eq_true hc
      have := (hJ.2.2.2 j o j0 j1 o0 o1).2.2 (by rw [hc'.2]; exact ho)
      rw [hc'.2] at this
      exact this.2
    have hC : ∀ o : Int, 0 ≤ o → o < 10 → gbit (s.1 5 0) o = 1 → ∀ q : Int, gones (s.1 5 0) ≤ q → gC (chj s) (crk s) o q = gJ (chj s) := fun o o0 o1 ho q hq => gsum_congr (by omega) (fun j j0 j1 => by
      by_cases hc : chj s j = true
      · rw [if_pos ⟨hc, by have := hrk o o0 o1 ho j j0 j1 hc; omega⟩, if_pos hc]
      · rw [if_neg (fun y => hc y.1), if_neg hc])
    have hT : ∀ o : Int, 0 ≤ o → o < 10 → gbit (s.1 5 0) o = 1 → ∀ q : Int, gones (s.1 5 0) ≤ q → gT (chj s) (crk s) o q = gT (chj s) (crk s) o (gones (s.1 5 0)) := fun o o0 o1 ho q hq => gsum_congr (by omega) (fun j j0 j1 => by
      by_cases hc : chj s j = true
      · have := hrk o o0 o1 ho j j0 j1 hc
        rw [if_pos ⟨hc, by omega⟩, if_pos ⟨hc, by omega⟩]
      · rw [if_neg (fun y => hc y.1), if_neg (fun y => hc y.1)])
    have hFH : ∀ o : Int, 0 ≤ o → o < 10 → gbit (s.1 5 0) o = 1 → mF s o = gH (chj s) (crk s) o ∧ mF s o ≤ gones (s.1 5 0) := fun o o0 o1 ho => by
      have e : mF s o = gfst (fun k => decide (gJ (chj s) < 2 * gC (chj s) (crk s) o k)) 1 10 := by
        unfold mF
        congr 1
        funext k
        rw [J_same hJ, C_same hJ o0 o1]
      have le : gfst (fun k => decide (gJ (chj s) < 2 * gC (chj s) (crk s) o k)) 1 10 ≤ gones (s.1 5 0) := gfst_le 10 1 _ hn1 (by omega) (decide_eq_true (by rw [hC o o0 o1 ho _ (Int.le_refl _)]; omega))
      refine ⟨?_, by rw [e]; exact le⟩
      rw [e]
      exact (gfst_more 9 1 (Int.le_trans le (by have e9 : ((9 : Nat) : Int) = 9 := rfl; rw [e9]; omega))).symm
    obtain ⟨fc1, fc2⟩ := hFH c z.1.1.1 (by omega) z.1.2
    unfold mpl
    rw [hJ.2.1, if_pos ⟨z.1, by omega⟩]
    show gPlace (s.1 5 0) (chj s) (crk s) c = _
    unfold gPlace mD mA
    rw [hJ.2.1, ← gsum_add _ _ (by omega)]
    congr 1
    refine gsum_congr (by omega) (fun o o0 o1 => ?_)
    show (if ((0 ≤ o ∧ o ≤ 9) ∧ gbit (s.1 5 0) o = 1) ∧ gAhead (chj s) (crk s) o c (gH (chj s) (crk s) c) = 1 then (1 : Int) else 0) = (if ((0 ≤ o ∧ o ≤ 9) ∧ gbit (s.1 5 0) o = 1) ∧ mF s o < mF s c then 1 else 0) + (if (((0 ≤ o ∧ o ≤ 9) ∧ gbit (s.1 5 0) o = 1) ∧ mF s o = mF s c) ∧ mag s o c (mF s c) < 0 then 1 else 0)
    by_cases so : (0 ≤ o ∧ o ≤ 9) ∧ gbit (s.1 5 0) o = 1
    · obtain ⟨fo1, fo2⟩ := hFH o o0 o1 so.2
      have hb := gH_bd (chj s) (crk s) c
      have hag : mag s o c (mF s c) = gag (chj s) (crk s) o c (mF s c) (gones (s.1 5 0) + 1 - mF s c).toNat := by
        unfold mag
        rw [hJ.2.1]
        exact gag_congr (fun q => C_same hJ o0 o1 q) (fun q => C_same hJ z.1.1.1 (by omega) q) (fun q => T_same hJ o0 o1 q) (fun q => T_same hJ z.1.1.1 (by omega) q) _ _
      have key := gcmp_gag (hj := chj s) (rk := crk s) (o := o) (c := c) (n := gones (s.1 5 0)) (fun q hq => ⟨by rw [hC o o0 o1 so.2 q hq, hC c z.1.1.1 (by omega) z.1.2 q hq], hT o o0 o1 so.2 q hq, hT c z.1.1.1 (by omega) z.1.2 q hq⟩) (10 - gones (s.1 5 0)).toNat (gones (s.1 5 0) + 1 - mF s c).toNat (mF s c) (by omega) (by omega)
      rw [show (gones (s.1 5 0) + 1 - mF s c).toNat + (10 - gones (s.1 5 0)).toNat = (11 - mF s c).toNat by omega, ← hag] at key
      have hA : gAhead (chj s) (crk s) o c (gH (chj s) (crk s) c) = 1 ↔ (mF s o < mF s c ∨ (mF s o = mF s c ∧ mag s o c (mF s c) < 0)) := by
        rw [← fc1]
        unfold gAhead
        rw [← fo1]
        by_cases e : mF s o = mF s c
        · rw [if_pos e, key]
          omega
        · rw [if_neg e, gb_1]
          omega
      by_cases e : mF s o = mF s c
      · by_cases g : mag s o c (mF s c) < 0
        · rw [if_pos ⟨so, hA.mpr (Or.inr ⟨e, g⟩)⟩, if_neg (show ¬ (((0 ≤ o ∧ o ≤ 9) ∧ gbit (s.1 5 0) o = 1) ∧ mF s o < mF s c) from fun y => by omega), if_pos ⟨⟨so, e⟩, g⟩]; omega
        · rw [if_neg (fun y => by have := hA.mp y.2; omega), if_neg (show ¬ (((0 ≤ o ∧ o ≤ 9) ∧ gbit (s.1 5 0) o = 1) ∧ mF s o < mF s c) from fun y => by omega), if_neg (fun y => g y.2)]; omega
      · by_cases l : mF s o < mF s c
        · rw [if_pos ⟨so, hA.mpr (Or.inl l)⟩, if_pos ⟨so, l⟩, if_neg (fun y => e y.1.2)]; omega
        · rw [if_neg (fun y => by have := hA.mp y.2; omega), if_neg (fun y => l y.2), if_neg (fun y => e y.1.2)]; omega
    · rw [if_neg (fun y => so y.1), if_neg (fun y => so y.1), if_neg (fun y => so y.1.1)]; omega
  · have z' : ¬ (((0 ≤ c ∧ c ≤ 9) ∧ gbit (s.1 5 0) c = 1) ∧ ¬ gJ (chj s) = 0) := z
    rw [if_neg z'] at h8
    rw [if_neg z]
    obtain ⟨hw, hb⟩ := h8
    subst hb
    exact ⟨by omega, h⟩

