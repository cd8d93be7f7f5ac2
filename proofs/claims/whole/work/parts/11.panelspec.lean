/-! ===== the places, as numbers ===== -/
def gclub (y : Int64) (i : Int) : Int := gand (gl2i (glushr y (4 * i))) 15
def gbitsOf (f : Int → Int) (n : Int) : Int := giter (fun i b => gor b (gshl 1 (f i))) 0 n
def gvalid (f : Int → Int) (n : Int) : Prop := ∀ i : Int, 0 ≤ i → i < n → f i < 10 ∧ ¬ gbit (gbitsOf f i) (f i) = 1
def granks (s : gS) (k : Int) (g : Int → Int) (n : Int) : gS := giter (fun i t => gpA t k (g i) (i + 1)) s n
theorem gbitsOf_rng (f : Int → Int) (n : Int) : rng (gbitsOf f n) := by
  unfold gbitsOf giter
  cases n.toNat with
  | zero => exact rng_0
  | succ m => exact rng_i _
theorem gand15 (a : Int) : 0 ≤ gand a 15 ∧ gand a 15 ≤ 15 := by
  have e : gand a 15 = (gv a &&& 15#32).toInt := rfl
  have h : (gv a &&& 15#32).toNat ≤ 15 := by
    rw [BitVec.toNat_and]
    exact Nat.and_le_right
  rw [e, BitVec.toInt_eq_toNat_of_lt (by omega)]
  omega
theorem gclub_bd (y : Int64) (i : Int) : 0 ≤ gclub y i ∧ gclub y i ≤ 15 := gand15 _
theorem granks_rg {s : gS} {k : Int} {g : Int → Int} {n : Int} (hs : gRg s) (h0 : 0 ≤ n) (h1 : n ≤ 10) : gRg (granks s k g n) := by
  have h := giter_ind (f := fun i t => gpA t k (g i) (i + 1)) (a := s) (N := n) (fun _ t => gRg t) hs (fun i t hi hn ht => gRg_A ht (rng_of (by omega) (by omega))) n h0 (Int.le_refl n)
  exact h
theorem gsum_bd {f : Int → Int} {n lo hi : Int} (h0 : 0 ≤ n) (h : ∀ i, 0 ≤ i → i < n → lo ≤ f i ∧ f i ≤ hi) : n * lo ≤ gsum f n ∧ gsum f n ≤ n * hi := by
  have := giter_ind (f := fun i a => a + f i) (a := (0 : Int)) (N := n) (fun i a => i * lo ≤ a ∧ a ≤ i * hi) ⟨by omega, by omega⟩ (fun i x h1 h2 hx => by
    have := h i h1 h2
    have e1 : (i + 1) * lo = i * lo + lo := by rw [Int.add_mul, Int.one_mul]
    have e2 : (i + 1) * hi = i * hi + hi := by rw [Int.add_mul, Int.one_mul]
    omega) n h0 (Int.le_refl n)
  exact this
def gJ (hj : Int → Bool) : Int := gsum (fun j => if hj j = true then 1 else 0) 9
def gC (hj : Int → Bool) (rk : Int → Int → Int) (c k : Int) : Int := gsum (fun j => if hj j = true ∧ rk j c ≤ k then 1 else 0) 9
def gT (hj : Int → Bool) (rk : Int → Int → Int) (c k : Int) : Int := gsum (fun j => if hj j = true ∧ rk j c ≤ k then rk j c else 0) 9
theorem gJ_bd (hj : Int → Bool) : 0 ≤ gJ hj ∧ gJ hj ≤ 9 := by
  have := gsum_bd (f := fun j => if hj j = true then 1 else 0) (n := 9) (lo := 0) (hi := 1) (by omega) (fun i _ _ => by split <;> omega)
  unfold gJ; omega
theorem gC_bd (hj : Int → Bool) (rk : Int → Int → Int) (c k : Int) : 0 ≤ gC hj rk c k ∧ gC hj rk c k ≤ 9 := by
  have := gsum_bd (f := fun j => if hj j = true ∧ rk j c ≤ k then 1 else 0) (n := 9) (lo := 0) (hi := 1) (by omega) (fun i _ _ => by split <;> omega)
  unfold gC; omega
theorem gT_bd {hj : Int → Bool} {rk : Int → Int → Int} {c k : Int} (h : ∀ j, 0 ≤ j → j < 9 → 0 ≤ rk j c ∧ rk j c ≤ 10) : 0 ≤ gT hj rk c k ∧ gT hj rk c k ≤ 90 := by
  have := gsum_bd (f := fun j => if hj j = true ∧ rk j c ≤ k then rk j c else 0) (n := 9) (lo := 0) (hi := 10) (by omega) (fun i h0 h1 => by have := h i h0 h1; split <;> omega)
  unfold gT; omega
def gfst (P : Int → Bool) : Int → Nat → Int
  | k, 0 => k
  | k, n + 1 => if P k = true then k else gfst P (k + 1) n
theorem gfst_s (P : Int → Bool) (k : Int) (n : Nat) : gfst P k (n + 1) = if P k = true then k else gfst P (k + 1) n := rfl
theorem gfst_bd (P : Int → Bool) : ∀ (n : Nat) (k : Int), k ≤ gfst P k n ∧ gfst P k n ≤ k + n
  | 0, k => by show k ≤ k ∧ k ≤ k + _; omega
  | n + 1, k => by
    have := gfst_bd P n (k + 1)
    show k ≤ (if P k = true then k else gfst P (k + 1) n) ∧ (if P k = true then k else gfst P (k + 1) n) ≤ _
    split <;> omega
def gH (hj : Int → Bool) (rk : Int → Int → Int) (c : Int) : Int := gfst (fun k => decide (gJ hj < 2 * gC hj rk c k)) 1 9
theorem gH_bd (hj : Int → Bool) (rk : Int → Int → Int) (c : Int) : 1 ≤ gH hj rk c ∧ gH hj rk c ≤ 10 := gfst_bd _ 9 1
def gcmp (hj : Int → Bool) (rk : Int → Int → Int) (o c : Int) : Int → Nat → Int
  | _, 0 => 0
  | k, n + 1 => if gC hj rk o k - gC hj rk c k = 0 then (if gT hj rk c k - gT hj rk o k = 0 then gcmp hj rk o c (k + 1) n else gb (0 < gT hj rk c k - gT hj rk o k)) else gb (0 < gC hj rk o k - gC hj rk c k)
theorem gcmp_s (hj : Int → Bool) (rk : Int → Int → Int) (o c k : Int) (n : Nat) : gcmp hj rk o c k (n + 1) = if gC hj rk o k - gC hj rk c k = 0 then (if gT hj rk c k - gT hj rk o k = 0 then gcmp hj rk o c (k + 1) n else gb (0 < gT hj rk c k - gT hj rk o k)) else gb (0 < gC hj rk o k - gC hj rk c k) := rfl
theorem gcmp_01 (hj : Int → Bool) (rk : Int → Int → Int) (o c : Int) : ∀ (n : Nat) (k : Int), gcmp hj rk o c k n = 0 ∨ gcmp hj rk o c k n = 1
  | 0, k => Or.inl rfl
  | n + 1, k => by
    unfold gcmp
    split
    · split
      · exact gcmp_01 hj rk o c n (k + 1)
      · exact gb_01 _
    · exact gb_01 _
def gAhead (hj : Int → Bool) (rk : Int → Int → Int) (o c h : Int) : Int := if gH hj rk o = h then gcmp hj rk o c h (11 - h).toNat else gb (gH hj rk o < h)
theorem gAhead_01 (hj : Int → Bool) (rk : Int → Int → Int) (o c h : Int) : gAhead hj rk o c h = 0 ∨ gAhead hj rk o c h = 1 := by
  unfold gAhead
  split
  · exact gcmp_01 _ _ _ _ _ _
  · exact gb_01 _
def gPlace (sg : Int) (hj : Int → Bool) (rk : Int → Int → Int) (c : Int) : Int := gsum (fun o => if ((0 ≤ o ∧ o ≤ 9) ∧ gbit sg o = 1) ∧ gAhead hj rk o c (gH hj rk c) = 1 then 1 else 0) 10 + 1
def chj (s : gS) (j : Int) : Bool := decide (¬ (s.1 5 0) = 0 ∧ (s.2 17 j) = (s.1 5 0))
def crk (s : gS) (j c : Int) : Int := s.2 (300 + j) c
def gRk (s : gS) : Prop := ∀ j c : Int, 0 ≤ j → j < 9 → 0 ≤ c → c < 10 → 0 ≤ s.2 (300 + j) c ∧ s.2 (300 + j) c ≤ 10
def gjudges (s : gS) : Int := gJ (chj s)
def gcr (s : gS) (c k : Int) : Int := gC (chj s) (crk s) c k
def gsr (s : gS) (c k : Int) : Int := gT (chj s) (crk s) c k
def ghalf (s : gS) (c : Int) : Int := gH (chj s) (crk s) c
def gahead (s : gS) (o c h : Int) : Int := gAhead (chj s) (crk s) o c h
def gplace (s : gS) (c : Int) : Int := gPlace (s.1 5 0) (chj s) (crk s) c

