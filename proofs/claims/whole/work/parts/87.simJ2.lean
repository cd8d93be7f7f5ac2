/-! ===== a judge's row in both ===== -/
theorem gv_l2i (x : Int64) (i : Nat) (h : i < 32) : (gv (gl2i x)).getLsbD i = x.toBitVec.getLsbD i := by
  have e : gv (gl2i x) = x.toBitVec.signExtend 32 := gv_back _
  rw [e, BitVec.getLsbD_signExtend]
  have h2 : i < 64 := by omega
  simp [h, h2]
theorem club_low {x z : Int64} (h : ∀ i : Nat, i < 4 → x.toBitVec.getLsbD i = z.toBitVec.getLsbD i) : gand (gl2i x) 15 = gand (gl2i z) 15 := by
  refine gv_inj (rng_i _) (rng_i _) ?_
  rw [gv_and, gv_and]
  apply BitVec.eq_of_getLsbD_eq
  intro i hi
  rw [BitVec.getLsbD_and, BitVec.getLsbD_and, gv_l2i x i hi, gv_l2i z i hi]
  by_cases h4 : i < 4
  · rw [h i h4]
  · have e : (gv 15).getLsbD i = false := by
      have h15 : ∀ i : Fin 32, ¬ i.val < 4 → (gv 15).getLsbD i.val = false := by decide +kernel
      exact h15 ⟨i, hi⟩ h4
    rw [e, Bool.and_false, Bool.and_false]
theorem club_sm : ∀ i : Fin 10, ((Int32.ofInt (4 * (i.val : Int))).toInt64 &&& 63).toBitVec.smod 64 = BitVec.ofNat 64 (4 * i.val) := by decide +kernel
theorem club_su : ∀ i : Fin 10, ((Int32.ofInt (4 * (i.val : Int))).toInt64.toUInt64 &&& Int64.toUInt64 63).toBitVec % 64 = BitVec.ofNat 64 (4 * i.val) := by decide +kernel
theorem club_n (i : Fin 10) : (BitVec.ofNat 64 (4 * i.val)).toNat = 4 * i.val := by
  rw [BitVec.toNat_ofNat]
  have := i.isLt
  exact Nat.mod_eq_of_lt (by omega)
theorem club_sh (y : Int64) (i : Fin 10) : (glushr y (4 * (i.val : Int))).toBitVec = y.toBitVec >>> (4 * i.val) ∧ (glshr y (4 * (i.val : Int))).toBitVec = y.toBitVec.sshiftRight (4 * i.val) := by
  constructor
  · have e : (glushr y (4 * (i.val : Int))).toBitVec = (y.toUInt64 >>> ((Int32.ofInt (4 * (i.val : Int))).toInt64.toUInt64 &&& Int64.toUInt64 63)).toBitVec := rfl
    rw [e, UInt64.toBitVec_shiftRight, club_su i, BitVec.ushiftRight_eq', club_n i]
    rfl
  · have e : (glshr y (4 * (i.val : Int))).toBitVec = (y >>> ((Int32.ofInt (4 * (i.val : Int))).toInt64 &&& 63)).toBitVec := rfl
    rw [e, Int64.toBitVec_shiftRight, club_sm i, BitVec.sshiftRight_eq', club_n i]
theorem club_same (y : Int64) {i : Int} (h0 : 0 ≤ i) (h1 : i < 10) : mclub y i = gclub y i := by
  have e : mclub y i = gand (gl2i (glshr y (4 * i))) 15 := by
    unfold mclub gl2i gand
    rw [Int64.toInt32_and, Int32.ofInt_toInt]
    rfl
  rw [e]
  unfold gclub
  refine club_low (fun q hq => ?_)
  obtain ⟨e1, e2⟩ := club_sh y ⟨i.toNat, by omega⟩
  dsimp only at e1 e2
  rw [Int.toNat_of_nonneg h0] at e1 e2
  rw [e1, e2, BitVec.getLsbD_ushiftRight, BitVec.getLsbD_sshiftRight]
  have h2 : 4 * i.toNat + q < 64 := by omega
  simp [h2]
  omega
theorem bitsOf_same {f g : Int → Int} {n : Int} (h0 : 0 ≤ n) (h : ∀ i, 0 ≤ i → i < n → f i = g i) : gbitsOf f n = gbitsOf g n := giter_congr h0 (fun i x a b => by rw [h i a b])
theorem valid_same {f g : Int → Int} {n : Int} (h : ∀ i, 0 ≤ i → i < n → f i = g i) (hv : gvalid f n) : gvalid g n := fun i a b => by
  rw [← bitsOf_same a (fun q c d => h q c (by omega)), ← h i a b]; exact hv i a b
theorem granks_off {s : gS} {k : Int} {g : Int → Int} {n : Int} (h0 : 0 ≤ n) : gchg (fun _ _ => False) (fun q => q = k) s (granks s k g n) := gchg.iter (A := fun q => q = k) (gchg.rf _ _ s) g (fun i => i + 1) rfl h0
theorem granks_at {s : gS} {k : Int} {g : Int → Int} {n : Int} (h0 : 0 ≤ n) (c : Int) : (granks s k g n).2 k c = giter (fun i a => if g i = c then i + 1 else a) (s.2 k c) n := by
  have key : ∀ d : Nat, (granks s k g d).2 k c = giter (fun i a => if g i = c then i + 1 else a) (s.2 k c) d := by
    intro d
    induction d with
    | zero => rfl
    | succ d ih =>
      have e : granks s k g ((d : Int) + 1) = gpA (granks s k g d) k (g d) (d + 1) := giter_s _ _ (by omega)
      rw [show ((d + 1 : Nat) : Int) = (d : Int) + 1 by omega, e, giter_s _ _ (by omega)]
      by_cases h : g d = c
      · rw [if_pos h, ← h, gpA_eq]
      · rw [if_neg h, gpA_ni (fun z => h z.symm), ih]
  have := key n.toNat
  rw [Int.toNat_of_nonneg h0] at this
  exact this
theorem grk_bd {g : Int → Int} {n a c : Int} (h0 : 0 ≤ n) (h1 : n ≤ 10) (ha : 0 ≤ a ∧ a ≤ 10) : 0 ≤ giter (fun i a => if g i = c then i + 1 else a) a n ∧ giter (fun i a => if g i = c then i + 1 else a) a n ≤ 10 :=
  giter_ind (f := fun i a => if g i = c then i + 1 else a) (a := a) (N := n) (fun _ v => 0 ≤ v ∧ v ≤ 10) ha (fun i x a b e => by split <;> omega) n h0 (Int.le_refl n)
theorem gbitsOf_s (f : Int → Int) {n : Int} (h : 0 ≤ n) : gbitsOf f (n + 1) = gor (gbitsOf f n) (gshl 1 (f n)) := giter_s _ _ h
theorem grk_in {f : Int → Int} {a c : Int} {n : Int} (hf : ∀ i, 0 ≤ i → i < n → 0 ≤ f i ∧ f i < 10) (c0 : 0 ≤ c) (c1 : c < 10) : ∀ d : Nat, (d : Int) ≤ n → gbit (gbitsOf f d) c = 1 → 1 ≤ giter (fun i a => if f i = c then i + 1 else a) a d ∧ giter (fun i a => if f i = c then i + 1 else a) a d ≤ d := by
  intro d
  induction d with
  | zero =>
    intro _ hb
    have e : gbitsOf f ((0 : Nat) : Int) = 0 := rfl
    rw [e, gbit_0 c0 (by omega)] at hb
    omega
  | succ d ih =>
    intro hd hb
    have hfd := hf d (by omega) (by omega)
    rw [show ((d + 1 : Nat) : Int) = (d : Int) + 1 by omega] at hb ⊢
    rw [gbitsOf_s f (by omega), gbit_or_shl (by omega) (by omega) c0 (by omega)] at hb
    rw [giter_s _ _ (by omega)]
    by_cases e : f d = c
    · rw [if_pos e]; omega
    · rw [if_neg (fun z => e z.symm)] at hb
      rw [if_neg e]
      have := ih (by omega) hb
      omega
theorem gones_bitsOf {f : Int → Int} {n : Int} (hf : ∀ i, 0 ≤ i → i < n → 0 ≤ f i ∧ f i < 10) (hv : gvalid f n) : ∀ d : Nat, (d : Int) ≤ n → gones (gbitsOf f d) = d := by
  intro d
  induction d with
  | zero => intro _; exact gsum_z (by omega) (fun i a b => gbit_0 a (by omega))
  | succ d ih =>
    intro hd
    have hfd := hf d (by omega) (by omega)
    have hvd := (hv d (by omega) (by omega)).2
    rw [show ((d + 1 : Nat) : Int) = (d : Int) + 1 by omega, gbitsOf_s f (by omega)]
    have g := ih (by omega)
    unfold gones at g ⊢
    have e : gsum (fun k => gbit (gor (gbitsOf f d) (gshl 1 (f d))) k) 30 = gsum (fun k => gbit (gbitsOf f d) k + (if f d = k then 1 else 0)) 30 := gsum_congr (by omega) (fun i a b => by
      rw [gbit_or_shl (by omega) (by omega) a (by omega)]
      by_cases h : i = f d
      · rw [if_pos h, if_pos h.symm]
        have := gbit01 (b := gbitsOf f d) (i := f d) (by omega) (by omega)
        rw [h]; omega
      · rw [if_neg h, if_neg (fun z => h z.symm)]; omega)
    rw [e, gsum_add _ _ (by omega), gsum_one (by omega) (by omega), if_pos (by omega), g]
theorem sim_judge {s t u : gS} {v w j n : Int} {y : Int64} (h : iv s) (h7 : (((0 ≤ j ∧ j ≤ 8) ∧ (0 ≤ n ∧ n ≤ 10) ∧ gvalid (gclub y) n) → v = 1 ∧ t = granks (gpA s 17 j (gbitsOf (gclub y) n)) (300 + j) (gclub y) n) ∧ (¬ ((0 ≤ j ∧ j ≤ 8) ∧ (0 ≤ n ∧ n ≤ 10) ∧ gvalid (gclub y) n) → v = 0 ∧ t = s))
    (h8 : ((0 ≤ j ∧ j ≤ 8) ∧ (0 ≤ n ∧ n ≤ 10) ∧ gvalid (mclub y) n → w = 1 ∧ u = granks (gpA (gpA t 418 j n) 419 j (gbitsOf (mclub y) n)) 420 (fun i => 10 * j + mclub y i) n) ∧ (¬ ((0 ≤ j ∧ j ≤ 8) ∧ (0 ≤ n ∧ n ≤ 10) ∧ gvalid (mclub y) n) → w = 0 ∧ u = t)) (hu : gRg u) : v = w ∧ iv u := by
  by_cases z : (0 ≤ j ∧ j ≤ 8) ∧ (0 ≤ n ∧ n ≤ 10) ∧ gvalid (gclub y) n
  · obtain ⟨hr, iL', ⟨a1, a2, a3, a4⟩, iR', iT'⟩ := h
    obtain ⟨z1, z2, z3⟩ := z
    have hcl : ∀ i, 0 ≤ i → i < n → gclub y i = mclub y i := fun i a b => (club_same y a (by omega)).symm
    obtain ⟨h7a, h7b⟩ := h7.1 ⟨z1, z2, z3⟩
    obtain ⟨h8a, h8b⟩ := h8.1 ⟨z1, z2, valid_same hcl z3⟩
    have hf : ∀ i, 0 ≤ i → i < n → 0 ≤ gclub y i ∧ gclub y i < 10 := fun i a b => ⟨(gclub_bd y i).1, (z3 i a b).1⟩
    have hN : ((n.toNat : Nat) : Int) = n := Int.toNat_of_nonneg z2.1
    have c1 : gchg (fun _ _ => False) (fun k => k = 17 ∨ k = 300 + j) s t := by
      rw [h7b]; exact ((gchg.rf _ _ s).pA _ _ (Or.inl rfl)).iter (k := 300 + j) (gclub y) (fun i => i + 1) (Or.inr rfl) z2.1
    have c2 : gchg (fun _ _ => False) (fun k => k = 418 ∨ k = 419 ∨ k = 420) t u := by
      rw [h8b]; exact (((gchg.rf _ _ t).pA _ _ (Or.inl rfl)).pA _ _ (Or.inr (Or.inl rfl))).iter (k := 420) (fun i => 10 * j + mclub y i) (fun i => i + 1) (Or.inr (Or.inr rfl)) z2.1
    have c3 := c1.trans c2
    refine ⟨by omega, hu, c3.L (fun k j => by simp) (fun k => by unfold aL; omega) iL', ?_, c3.R (fun k j => by simp) (fun k => by unfold aR; omega) iR', c3.T (fun k j => by simp) (fun k => by unfold aT; omega) iT'⟩
    have f5 : u.1 5 0 = s.1 5 0 := c3.1 5 0 (by simp)
    have f16 : u.1 400 16 = s.1 400 16 := c3.1 400 16 (by simp)
    have u17 : ∀ q : Int, u.2 17 q = if q = j then gbitsOf (gclub y) n else s.2 17 q := fun q => by
      rw [c2.2 17 (by omega), h7b, (granks_off z2.1).2 17 (by omega)]
      by_cases e : q = j
      · rw [if_pos e, e, gpA_eq]
      · rw [if_neg e, gpA_ni e]
    have u418 : ∀ q : Int, u.2 418 q = if q = j then n else s.2 418 q := fun q => by
      rw [h8b, (granks_off z2.1).2 418 (by omega), gpA_nk (by omega)]
      by_cases e : q = j
      · rw [if_pos e, e, gpA_eq]
      · rw [if_neg e, gpA_ni e, c1.2 418 (by omega)]
    have u419 : ∀ q : Int, u.2 419 q = if q = j then gbitsOf (gclub y) n else s.2 419 q := fun q => by
      rw [h8b, (granks_off z2.1).2 419 (by omega), ← bitsOf_same z2.1 hcl]
      by_cases e : q = j
      · rw [if_pos e, e, gpA_eq]
      · rw [if_neg e, gpA_ni e, gpA_nk (by omega), c1.2 419 (by omega)]
    have uR : ∀ q c : Int, 0 ≤ q → q < 9 → u.2 (300 + q) c = if q = j then giter (fun i a => if gclub y i = c then i + 1 else a) (s.2 (300 + j) c) n else s.2 (300 + q) c := fun q c q0 q1 => by
      by_cases e : q = j
      · rw [if_pos e, e, c2.2 (300 + j) (by omega), h7b, granks_at z2.1, gpA_nk (by omega)]
      · rw [if_neg e, c3.2 (300 + q) (by omega)]
    have u420 : ∀ q c : Int, 0 ≤ q → q < 9 → 0 ≤ c → c < 10 → u.2 420 (10 * q + c) = if q = j then giter (fun i a => if gclub y i = c then i + 1 else a) (s.2 420 (10 * j + c)) n else s.2 420 (10 * q + c) := fun q c q0 q1 d0 d1 => by
      rw [h8b, granks_at z2.1, gpA_nk (by omega), gpA_nk (by omega), c1.2 420 (by omega)]
      by_cases e : q = j
      · rw [if_pos e, e]
        refine giter_congr z2.1 (fun i x i0 i1 => ?_)
        rw [← hcl i i0 i1]
        by_cases g : gclub y i = c
        · rw [if_pos g, if_pos (by omega)]
        · rw [if_neg g, if_neg (by omega)]
      · rw [if_neg e]
        have : giter (fun i a => if 10 * j + mclub y i = 10 * q + c then i + 1 else a) (s.2 420 (10 * q + c)) n = giter (fun i a => a) (s.2 420 (10 * q + c)) n := giter_congr z2.1 (fun i x i0 i1 => by
          have := hf i i0 i1
          rw [hcl i i0 i1] at this
          rw [if_neg (by omega)])
        rw [this]
        exact giter_ind (f := fun _ a => a) (a := s.2 420 (10 * q + c)) (N := n) (fun _ v => v = s.2 420 (10 * q + c)) rfl (fun i x _ _ e => e) n z2.1 (Int.le_refl n)
    have hbits0 : gbitsOf (gclub y) n = 0 ↔ n = 0 := by
      have g := gones_bitsOf hf z3 n.toNat (by omega)
      rw [hN] at g
      constructor
      · intro e
        rw [e] at g
        have : gones 0 = 0 := gsum_z (by omega) (fun i a b => gbit_0 a (by omega))
        omega
      · intro e; rw [e]; rfl
    refine ⟨by rw [f5]; exact a1, by rw [f5, f16]; exact a2, fun q q0 q1 => ?_, fun q c q0 q1 d0 d1 => ?_⟩
    · rw [u17, u418, u419]
      by_cases e : q = j
      · rw [if_pos e, if_pos e, if_pos e, hbits0]
        exact ⟨rfl, by omega⟩
      · rw [if_neg e, if_neg e, if_neg e]; exact a3 q q0 q1
    · rw [u17, uR q c q0 q1, u420 q c q0 q1 d0 d1]
      by_cases e : q = j
      · rw [if_pos e, if_pos e, if_pos e]
        obtain ⟨b1, b2, b3⟩ := a4 j c z1.1 (by omega) d0 d1
        refine ⟨by rw [b1], grk_bd z2.1 z2.2 b2, fun hb => ?_⟩
        have g := gones_bitsOf hf z3 n.toNat (by omega)
        have k := grk_in (a := s.2 (300 + j) c) hf d0 d1 n.toNat (by omega) (by rw [hN]; exact hb)
        rw [hN] at g k
        rw [g]; exact k
      · rw [if_neg e, if_neg e, if_neg e]; exact a4 q c q0 q1 d0 d1
  · have z' : ¬ ((0 ≤ j ∧ j ≤ 8) ∧ (0 ≤ n ∧ n ≤ 10) ∧ gvalid (mclub y) n) := fun x => z ⟨x.1, x.2.1, valid_same (fun i a b => club_same y a (by have := x.2.1; omega)) x.2.2⟩
    obtain ⟨h7a, h7b⟩ := h7.2 z
    obtain ⟨h8a, h8b⟩ := h8.2 z'
    subst h7b
    subst h8b
    exact ⟨by omega, h⟩

