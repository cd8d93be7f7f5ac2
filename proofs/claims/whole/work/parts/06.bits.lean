theorem ldc_J6_265 : Cond.constant RJ6 265 (1431655765) ∈ gAll := (gm_2 132 rfl rfl)
theorem ldc_J6_266 : Cond.constant RJ6 266 (858993459) ∈ gAll := (gm_2 133 rfl rfl)
theorem ldc_J6_267 : Cond.constant RJ6 267 (252645135) ∈ gAll := (gm_2 134 rfl rfl)
/-! ===== bits of ints ===== -/
def gv (a : Int) : BitVec 32 := (Int32.ofInt a).toBitVec
theorem gv_back (x : Int32) : gv x.toInt = x.toBitVec := by unfold gv; rw [Int32.ofInt_toInt]
theorem gv_and (a b : Int) : gv (gand a b) = gv a &&& gv b := gv_back _
theorem gv_or (a b : Int) : gv (gor a b) = gv a ||| gv b := gv_back _
theorem gv_xor (a b : Int) : gv (gxor a b) = gv a ^^^ gv b := gv_back _
theorem gv_inj {a b : Int} (ha : rng a) (hb : rng b) (h : gv a = gv b) : a = b := (gI_eq ha hb).mp (Int32.toBitVec_inj.mp h)
theorem gsm : ∀ i : Fin 32, ((Int32.ofInt (i.val : Int) &&& 31).toBitVec.smod 32) = BitVec.ofNat 32 i.val := by decide +kernel
theorem gsm' {i : Int} (h0 : 0 ≤ i) (h1 : i < 32) : ((Int32.ofInt i &&& 31).toBitVec.smod 32) = BitVec.ofNat 32 i.toNat := by
  have h := gsm ⟨i.toNat, by omega⟩
  have e : ((i.toNat : Nat) : Int) = i := by omega
  rw [← h]
  show _ = ((Int32.ofInt ((i.toNat : Nat) : Int) &&& 31).toBitVec.smod 32)
  rw [e]
theorem gv_shl {a i : Int} (h0 : 0 ≤ i) (h1 : i < 32) : gv (gshl a i) = gv a <<< i.toNat := by
  unfold gshl
  rw [gv_back, Int32.toBitVec_shiftLeft, gsm' h0 h1, BitVec.shiftLeft_eq', BitVec.toNat_ofNat, Nat.mod_eq_of_lt (by omega)]
  rfl
theorem gv_shr {a i : Int} (h0 : 0 ≤ i) (h1 : i < 32) : gv (gshr a i) = (gv a).sshiftRight i.toNat := by
  unfold gshr
  rw [gv_back, Int32.toBitVec_shiftRight, gsm' h0 h1]
  show BitVec.sshiftRight _ (BitVec.ofNat 32 i.toNat).toNat = _
  rw [BitVec.toNat_ofNat, Nat.mod_eq_of_lt (by omega)]
  rfl
def gbit (b i : Int) : Int := gand (gshr b i) 1
theorem gbit_eq {b i : Int} (h0 : 0 ≤ i) (h1 : i < 32) : gbit b i = if (gv b).getLsbD i.toNat = true then 1 else 0 := by
  have e : gv (gbit b i) = if (gv b).getLsbD i.toNat = true then 1#32 else 0#32 := by
    unfold gbit
    rw [gv_and, gv_shr h0 h1, show gv 1 = 1#32 by decide]
    apply BitVec.eq_of_getLsbD_eq
    intro j hj
    rw [BitVec.getLsbD_and, BitVec.getLsbD_one, BitVec.getLsbD_sshiftRight]
    by_cases hj0 : j = 0
    · subst hj0
      have hlt : i.toNat + 0 < 32 := by omega
      rw [if_pos hlt]
      cases hb : (gv b).getLsbD i.toNat <;> simp [hb]
    · by_cases hb : (gv b).getLsbD i.toNat = true <;> simp [hb, hj0, BitVec.getLsbD_one]
  have hr : rng (gbit b i) := rng_i _
  by_cases hb : (gv b).getLsbD i.toNat = true
  · rw [if_pos hb] at e ⊢
    exact gv_inj hr (rng_of (by decide) (by decide)) (e.trans (by decide))
  · rw [if_neg hb] at e ⊢
    exact gv_inj hr (rng_of (by decide) (by decide)) (e.trans (by decide))
theorem gbit01 {b i : Int} (h0 : 0 ≤ i) (h1 : i < 32) : gbit b i = 0 ∨ gbit b i = 1 := by
  rw [gbit_eq h0 h1]
  split
  · exact Or.inr rfl
  · exact Or.inl rfl
theorem gbit_1 {b i : Int} (h0 : 0 ≤ i) (h1 : i < 32) : gbit b i = 1 ↔ (gv b).getLsbD i.toNat = true := by
  rw [gbit_eq h0 h1]
  by_cases hb : (gv b).getLsbD i.toNat = true <;> simp [hb]
theorem gbit_0 {i : Int} (h0 : 0 ≤ i) (h1 : i < 32) : gbit 0 i = 0 := by
  rw [gbit_eq h0 h1, show gv 0 = 0#32 by decide]
  simp
theorem gv_1shl {c : Int} (h0 : 0 ≤ c) (h1 : c < 32) (j : Nat) (hj : j < 32) : (gv (gshl 1 c)).getLsbD j = decide (j = c.toNat) := by
  rw [gv_shl h0 h1, show gv 1 = 1#32 by decide, BitVec.getLsbD_shiftLeft, BitVec.getLsbD_one]
  by_cases h : j = c.toNat
  · subst h; simp; omega
  · simp [h]; omega
theorem gbit_or_shl {b c i : Int} (hc0 : 0 ≤ c) (hc1 : c < 32) (h0 : 0 ≤ i) (h1 : i < 32) : gbit (gor b (gshl 1 c)) i = if i = c then 1 else gbit b i := by
  rw [gbit_eq h0 h1, gbit_eq h0 h1, gv_or, BitVec.getLsbD_or, gv_1shl hc0 hc1 _ (by omega)]
  by_cases h : i = c
  · subst h; simp
  · have : ¬ i.toNat = c.toNat := by omega
    simp [h, this]
theorem gbit_xor_shl {b c i : Int} (hc0 : 0 ≤ c) (hc1 : c < 32) (h0 : 0 ≤ i) (h1 : i < 32) : gbit (gxor b (gshl 1 c)) i = if i = c then 1 - gbit b i else gbit b i := by
  rw [gbit_eq h0 h1, gbit_eq h0 h1, gv_xor, BitVec.getLsbD_xor, gv_1shl hc0 hc1 _ (by omega)]
  by_cases h : i = c
  · subst h
    by_cases hb : (gv b).getLsbD i.toNat = true <;> simp [hb]
  · have : ¬ i.toNat = c.toNat := by omega
    simp [h, this]
theorem gbit_not {b i : Int} (h0 : 0 ≤ i) (h1 : i < 32) : gbit (gxor b (-1)) i = 1 - gbit b i := by
  have hi : i.toNat < 32 := by omega
  rw [gbit_eq h0 h1, gbit_eq h0 h1, gv_xor, BitVec.getLsbD_xor, show gv (-1) = BitVec.allOnes 32 by decide, BitVec.getLsbD_allOnes, decide_eq_true hi]
  cases hb : (gv b).getLsbD i.toNat <;> simp
theorem gbit_and {a b i : Int} (h0 : 0 ≤ i) (h1 : i < 32) : gbit (gand a b) i = 1 ↔ (gbit a i = 1 ∧ gbit b i = 1) := by
  rw [gbit_1 h0 h1, gbit_1 h0 h1, gbit_1 h0 h1, gv_and, BitVec.getLsbD_and, Bool.and_eq_true]
theorem gbit_ext {a b : Int} (ha : rng a) (hb : rng b) (h : ∀ i : Int, 0 ≤ i → i < 32 → gbit a i = gbit b i) : a = b := by
  refine gv_inj ha hb (BitVec.eq_of_getLsbD_eq ?_)
  intro j hj
  have e := h (j : Int) (by omega) (by omega)
  have u := gbit_1 (b := a) (i := (j : Int)) (by omega) (by omega)
  have v := gbit_1 (b := b) (i := (j : Int)) (by omega) (by omega)
  have ej : ((j : Int)).toNat = j := by omega
  rw [ej] at u v
  rw [e] at u
  by_cases q : (gv a).getLsbD j = true
  · rw [q, v.mp (u.mpr q)]
  · have : ¬ (gv b).getLsbD j = true := fun z => q (u.mp (v.mpr z))
    simp only [Bool.not_eq_true] at q this
    rw [q, this]
theorem gand_0 {a b : Int} : gand a b = 0 ↔ ∀ i : Int, 0 ≤ i → i < 32 → ¬ (gbit a i = 1 ∧ gbit b i = 1) := by
  constructor
  · intro h i h0 h1 hh
    have := (gbit_and (a := a) (b := b) h0 h1).mpr hh
    rw [h, gbit_0 h0 h1] at this
    omega
  · intro h
    refine gbit_ext (rng_i _) rng_0 (fun i h0 h1 => ?_)
    rw [gbit_0 h0 h1]
    rcases gbit01 (b := gand a b) h0 h1 with e | e
    · exact e
    · exact absurd ((gbit_and h0 h1).mp e) (h i h0 h1)
/-- a number that is not negative and below 2^n has no bit from n on -/
theorem gbit_hi {b i : Int} (n : Nat) (hb0 : 0 ≤ b) (hb1 : b < (2 ^ n : Nat)) (hn : (n : Int) ≤ i) (hn2 : n < 31) (h1 : i < 32) : gbit b i = 0 := by
  rw [gbit_eq (by omega) h1, if_neg]
  have hp : (2 ^ n : Nat) ≤ 2 ^ 31 := Nat.pow_le_pow_right (by decide) (by omega)
  have e : gv b = BitVec.ofNat 32 b.toNat := by
    obtain ⟨m, rfl⟩ : ∃ m : Nat, b = (m : Int) := ⟨b.toNat, by omega⟩
    show BitVec.ofInt 32 (m : Int) = _
    rw [BitVec.ofInt_natCast]
    rfl
  rw [e, BitVec.getLsbD_ofNat]
  have : b.toNat.testBit i.toNat = false := Nat.testBit_lt_two_pow (Nat.lt_of_lt_of_le (by omega : b.toNat < 2 ^ n) (Nat.pow_le_pow_right (by decide) (by omega)))
  simp [this]
/-! ===== Integer.bitCount, ones ===== -/
def gbc1 (a : Int) : Int := a - gand (gushr a 1) 1431655765
def gbc2 (a : Int) : Int := gand a 858993459 + gand (gushr a 2) 858993459
def gbc3 (a : Int) : Int := gand (a + gushr a 4) 252645135
def gbc4 (a : Int) : Int := a + gushr a 8
def gbc5 (a : Int) : Int := a + gushr a 16
def gbits (a : Int) : Int := gand (gbc5 (gbc4 (gbc3 (gbc2 (gbc1 a))))) 63
def gones (b : Int) : Int := gsum (fun k => gbit b k) 30
set_option maxRecDepth 100000 in
set_option maxHeartbeats 4000000 in
theorem bk_J6_bitCount_0f7a4_0 {X : gX} {G : gG} (hX : gOk X G cJ6_bitCount_0f7a4 1 RJ6 (some .int) 1) {Q : Int → gS → Prop} (hE : gEnd X G (gPi (fun v s' => Q v s' ∧ gRg s'))) (s : gS) (hs : gRg s) (x0 : Int)  (h : gWL X G s 10 [(0, vi (x0 - (gand (gushr x0 1) 1431655765)))] []) : gWL X G s 0 [(0, vi x0)] [] := by
  refine g_iload_n hX dJ6_bitCount_0f7a4_0 0 rfl ?_
  refine g_iload_n hX dJ6_bitCount_0f7a4_1 0 rfl ?_
  refine g_iconst hX dJ6_bitCount_0f7a4_2 ?_
  refine g_iushr hX dJ6_bitCount_0f7a4_3 ?_
  refine g_ldcw (n := 1431655765) hX ldc_J6_265 dJ6_bitCount_0f7a4_4 rfl ?_
  refine g_iand hX dJ6_bitCount_0f7a4_7 ?_
  refine g_isub hX dJ6_bitCount_0f7a4_8 ?_
  refine g_istore_n (loc' := [(0, vi (x0 - (gand (gushr x0 1) 1431655765)))]) hX dJ6_bitCount_0f7a4_9 (by decide) rfl ?_
  exact h
set_option maxRecDepth 100000 in
set_option maxHeartbeats 4000000 in
theorem bk_J6_bitCount_0f7a4_10 {X : gX} {G : gG} (hX : gOk X G cJ6_bitCount_0f7a4 1 RJ6 (some .int) 1) {Q : Int → gS → Prop} (hE : gEnd X G (gPi (fun v s' => Q v s' ∧ gRg s'))) (s : gS) (hs : gRg s) (x0 : Int)  (h : gWL X G s 24 [(0, vi ((gand x0 858993459) + (gand (gushr x0 2) 858993459)))] []) : gWL X G s 10 [(0, vi x0)] [] := by
  refine g_iload_n hX dJ6_bitCount_0f7a4_10 0 rfl ?_
  refine g_ldcw (n := 858993459) hX ldc_J6_266 dJ6_bitCount_0f7a4_11 rfl ?_
  refine g_iand hX dJ6_bitCount_0f7a4_14 ?_
  refine g_iload_n hX dJ6_bitCount_0f7a4_15 0 rfl ?_
  refine g_iconst hX dJ6_bitCount_0f7a4_16 ?_
  refine g_iushr hX dJ6_bitCount_0f7a4_17 ?_
  refine g_ldcw (n := 858993459) hX ldc_J6_266 dJ6_bitCount_0f7a4_18 rfl ?_
  refine g_iand hX dJ6_bitCount_0f7a4_21 ?_
  refine g_iadd hX dJ6_bitCount_0f7a4_22 ?_
  refine g_istore_n (loc' := [(0, vi ((gand x0 858993459) + (gand (gushr x0 2) 858993459)))]) hX dJ6_bitCount_0f7a4_23 (by decide) rfl ?_
  exact h
set_option maxRecDepth 100000 in
set_option maxHeartbeats 4000000 in
theorem bk_J6_bitCount_0f7a4_24 {X : gX} {G : gG} (hX : gOk X G cJ6_bitCount_0f7a4 1 RJ6 (some .int) 1) {Q : Int → gS → Prop} (hE : gEnd X G (gPi (fun v s' => Q v s' ∧ gRg s'))) (s : gS) (hs : gRg s) (x0 : Int)  (h : gWL X G s 34 [(0, vi (gand (x0 + (gushr x0 4)) 252645135))] []) : gWL X G s 24 [(0, vi x0)] [] := by
  refine g_iload_n hX dJ6_bitCount_0f7a4_24 0 rfl ?_
  refine g_iload_n hX dJ6_bitCount_0f7a4_25 0 rfl ?_
  refine g_iconst hX dJ6_bitCount_0f7a4_26 ?_
  refine g_iushr hX dJ6_bitCount_0f7a4_27 ?_
  refine g_iadd hX dJ6_bitCount_0f7a4_28 ?_
  refine g_ldcw (n := 252645135) hX ldc_J6_267 dJ6_bitCount_0f7a4_29 rfl ?_
  refine g_iand hX dJ6_bitCount_0f7a4_32 ?_
  refine g_istore_n (loc' := [(0, vi (gand (x0 + (gushr x0 4)) 252645135))]) hX dJ6_bitCount_0f7a4_33 (by decide) rfl ?_
  exact h
set_option maxRecDepth 100000 in
set_option maxHeartbeats 4000000 in
theorem bk_J6_bitCount_0f7a4_34 {X : gX} {G : gG} (hX : gOk X G cJ6_bitCount_0f7a4 1 RJ6 (some .int) 1) {Q : Int → gS → Prop} (hE : gEnd X G (gPi (fun v s' => Q v s' ∧ gRg s'))) (s : gS) (hs : gRg s) (x0 : Int)  (h : gWL X G s 41 [(0, vi (x0 + (gushr x0 8)))] []) : gWL X G s 34 [(0, vi x0)] [] := by
  refine g_iload_n hX dJ6_bitCount_0f7a4_34 0 rfl ?_
  refine g_iload_n hX dJ6_bitCount_0f7a4_35 0 rfl ?_
  refine g_bipush hX dJ6_bitCount_0f7a4_36 rfl ?_
  refine g_iushr hX dJ6_bitCount_0f7a4_38 ?_
  refine g_iadd hX dJ6_bitCount_0f7a4_39 ?_
  refine g_istore_n (loc' := [(0, vi (x0 + (gushr x0 8)))]) hX dJ6_bitCount_0f7a4_40 (by decide) rfl ?_
  exact h
set_option maxRecDepth 100000 in
set_option maxHeartbeats 4000000 in
theorem bk_J6_bitCount_0f7a4_41 {X : gX} {G : gG} (hX : gOk X G cJ6_bitCount_0f7a4 1 RJ6 (some .int) 1) {Q : Int → gS → Prop} (hE : gEnd X G (gPi (fun v s' => Q v s' ∧ gRg s'))) (s : gS) (hs : gRg s) (x0 : Int)  (h : gWL X G s 48 [(0, vi (x0 + (gushr x0 16)))] []) : gWL X G s 41 [(0, vi x0)] [] := by
  refine g_iload_n hX dJ6_bitCount_0f7a4_41 0 rfl ?_
  refine g_iload_n hX dJ6_bitCount_0f7a4_42 0 rfl ?_
  refine g_bipush hX dJ6_bitCount_0f7a4_43 rfl ?_
  refine g_iushr hX dJ6_bitCount_0f7a4_45 ?_
  refine g_iadd hX dJ6_bitCount_0f7a4_46 ?_
  refine g_istore_n (loc' := [(0, vi (x0 + (gushr x0 16)))]) hX dJ6_bitCount_0f7a4_47 (by decide) rfl ?_
  exact h
set_option maxRecDepth 100000 in
set_option maxHeartbeats 4000000 in
theorem bk_J6_bitCount_0f7a4_48 {X : gX} {G : gG} (hX : gOk X G cJ6_bitCount_0f7a4 1 RJ6 (some .int) 1) {Q : Int → gS → Prop} (hE : gEnd X G (gPi (fun v s' => Q v s' ∧ gRg s'))) (s : gS) (hs : gRg s) (x0 : Int)  (h : Q (gand x0 63) s) : gWL X G s 48 [(0, vi x0)] [] := by
  refine g_iload_n hX dJ6_bitCount_0f7a4_48 0 rfl ?_
  refine g_bipush hX dJ6_bitCount_0f7a4_49 rfl ?_
  refine g_iand hX dJ6_bitCount_0f7a4_51 ?_
  exact g_iret hX hE dJ6_bitCount_0f7a4_52 ⟨h, hs⟩
set_option maxRecDepth 100000 in
set_option maxHeartbeats 4000000 in
theorem c_J6_bitCount_0f7a4 (l : Launch) {G : gG} (hG : gInj G) (s : gS) (x0 : Int) (p0 : gRg s) : gMet l G yJ6_bitCount_0f7a4 cJ6_bitCount_0f7a4 1 (some .int) 1 [vi x0] s (gPi (fun v s' => (v = (gbits x0) ∧ s' = s) ∧ gRg s')) := by
  refine gMet_of (plainFor_of_name (by decide)) hG (Nat.le_of_ble_eq_true rfl) (fun X hX hE => ?_)
  refine bk_J6_bitCount_0f7a4_0 hX hE s p0 x0  ?_
  refine bk_J6_bitCount_0f7a4_10 hX hE s p0 (gbc1 x0) ?_
  refine bk_J6_bitCount_0f7a4_24 hX hE s p0 (gbc2 (gbc1 x0)) ?_
  refine bk_J6_bitCount_0f7a4_34 hX hE s p0 (gbc3 (gbc2 (gbc1 x0))) ?_
  refine bk_J6_bitCount_0f7a4_41 hX hE s p0 (gbc4 (gbc3 (gbc2 (gbc1 x0)))) ?_
  exact bk_J6_bitCount_0f7a4_48 hX hE s p0 (gbc5 (gbc4 (gbc3 (gbc2 (gbc1 x0))))) ⟨rfl, rfl⟩
set_option maxRecDepth 100000 in
set_option maxHeartbeats 4000000 in
theorem bk_X8_ones_0 {X : gX} {G : gG} (hX : gOk X G cX8_ones 3 RX8 (some .int) 1) {Q : Int → gS → Prop} (hE : gEnd X G (gPi (fun v s' => Q v s' ∧ gRg s'))) (s : gS) (hs : gRg s) (x0 : Int)  (h : gWL X G s 4 [(0, vi x0), (1, vi 0), (2, vi 0)] []) : gWL X G s 0 [(0, vi x0)] [] := by
  refine g_iconst hX dX8_ones_0 ?_
  refine g_istore_n (loc' := [(1, vi 0), (0, vi x0)]) hX dX8_ones_1 (by decide) rfl ?_
  refine g_iconst hX dX8_ones_2 ?_
  refine g_istore_n (loc' := [(2, vi 0), (1, vi 0), (0, vi x0)]) hX dX8_ones_3 (by decide) rfl ?_
  exact g_sub [2, 1, 0] rfl h
set_option maxRecDepth 100000 in
set_option maxHeartbeats 4000000 in
theorem bk_X8_ones_4 {X : gX} {G : gG} (hX : gOk X G cX8_ones 3 RX8 (some .int) 1) {Q : Int → gS → Prop} (hE : gEnd X G (gPi (fun v s' => Q v s' ∧ gRg s'))) (s : gS) (hs : gRg s) (x0 : Int) (x1 : Int) (x2 : Int)  (h : (rng x2) ∧ ((30 ≤ x2 → Q x1 s) ∧ (x2 < 30 → gWL X G s 4 [(0, vi x0), (1, vi (x1 + (gand (gshr x0 x2) 1))), (2, vi (x2 + 1))] []))) : gWL X G s 4 [(0, vi x0), (1, vi x1), (2, vi x2)] [] := by
  refine g_iload_n hX dX8_ones_4 2 rfl ?_
  refine g_bipush hX dX8_ones_5 rfl ?_
  obtain ⟨h1, h⟩ := h
  refine g_icge (tgt := 24) hX h1 (by unfold rng; omega) dX8_ones_7 (by decide) (fun c2 => ?_) (fun c2 => ?_)
  · replace h := h.1 c2
    refine g_iload_n hX dX8_ones_24 1 rfl ?_
    exact g_iret hX hE dX8_ones_25 ⟨h, hs⟩
  · replace h := h.2 (Int.not_le.mp c2)
    refine g_iload_n hX dX8_ones_10 1 rfl ?_
    refine g_iload_n hX dX8_ones_11 0 rfl ?_
    refine g_iload_n hX dX8_ones_12 2 rfl ?_
    refine g_ishr hX dX8_ones_13 ?_
    refine g_iconst hX dX8_ones_14 ?_
    refine g_iand hX dX8_ones_15 ?_
    refine g_iadd hX dX8_ones_16 ?_
    refine g_istore_n (loc' := [(1, vi (x1 + (gand (gshr x0 x2) 1))), (0, vi x0), (2, vi x2)]) hX dX8_ones_17 (by decide) rfl ?_
    refine g_iinc (loc' := [(2, vi (x2 + 1)), (1, vi (x1 + (gand (gshr x0 x2) 1))), (0, vi x0)]) hX dX8_ones_18 2 rfl (by decide) rfl ?_
    refine g_goto (tgt := 4) hX dX8_ones_21 (by decide) ?_
    exact g_sub [2, 1, 0] rfl h
set_option maxRecDepth 100000 in
set_option maxHeartbeats 4000000 in
theorem c_X8_ones (l : Launch) {G : gG} (hG : gInj G) (s : gS) (x0 : Int) (p0 : gRg s) : gMet l G yX8_ones cX8_ones 3 (some .int) 1 [vi x0] s (gPi (fun v s' => (v = (gones x0) ∧ s' = s) ∧ gRg s')) := by
  refine gMet_of (plainFor_of_name (by decide)) hG (Nat.le_of_ble_eq_true rfl) (fun X hX hE => ?_)
  refine bk_X8_ones_0 hX hE s p0 x0  ?_
  refine gloop (α := Int) (hi := 30) (fun i n => 0 ≤ i ∧ n = gsum (fun k => gbit x0 k) i) (fun i n => gWL X G s 4 [(0, vi x0), (1, vi n), (2, vi i)] []) ?_ ?_ 0 0 (by omega) ⟨by omega, rfl⟩
  · intro i n hi ⟨h0, hn⟩ next
    exact bk_X8_ones_4 hX hE s p0 x0 n i ⟨rng_of (by omega) (by omega), fun h => by omega, fun _ => next _ ⟨by omega, by rw [gsum_s _ h0, hn]; rfl⟩⟩
  · intro n ⟨h0, hn⟩
    exact bk_X8_ones_4 hX hE s p0 x0 n 30 ⟨rng_of (by omega) (by omega), fun _ => ⟨hn, rfl⟩, fun h => by omega⟩
theorem gbits_all : ∀ a : Fin 64, ∀ b : Fin 64, gbits (64 * (a.val : Int) + (b.val : Int)) = gsum (fun k => gbit (64 * (a.val : Int) + (b.val : Int)) k) 12 := by decide +kernel
theorem gbits_12 {a : Int} (h0 : 0 ≤ a) (h1 : a < 4096) : gbits a = gsum (fun k => gbit a k) 12 := by
  have h := gbits_all ⟨a.toNat / 64, by omega⟩ ⟨a.toNat % 64, by omega⟩
  have e : 64 * (((a.toNat / 64 : Nat)) : Int) + ((a.toNat % 64 : Nat) : Int) = a := by omega
  simp only [e] at h
  exact h

