/-! ===== what holds between the class and the reference ===== -/
def gchg (F : Int → Nat → Prop) (A : Int → Prop) (s t : gS) : Prop := (∀ (k : Int) (j : Nat), ¬ F k j → t.1 k j = s.1 k j) ∧ ∀ k : Int, ¬ A k → t.2 k = s.2 k
theorem gchg.rf (F : Int → Nat → Prop) (A : Int → Prop) (s : gS) : gchg F A s s := ⟨fun _ _ _ => rfl, fun _ _ => rfl⟩
theorem gchg.pI {F : Int → Nat → Prop} {A : Int → Prop} {s t : gS} (h : gchg F A s t) {k : Int} {j : Nat} (v : Int) (hF : F k j) : gchg F A s (gpI t k j v) := ⟨fun k' j' hn => by
  show (if k' = k ∧ j' = j then v else t.1 k' j') = _
  rw [if_neg (fun z => hn (by rw [z.1, z.2]; exact hF))]; exact h.1 k' j' hn, h.2⟩
theorem gchg.pA {F : Int → Nat → Prop} {A : Int → Prop} {s t : gS} (h : gchg F A s t) {k : Int} (i v : Int) (hA : A k) : gchg F A s (gpA t k i v) := ⟨h.1, fun k' hn => by
  funext i'
  rw [gpA_nk (fun z => hn (by rw [z]; exact hA))]; exact congrFun (h.2 k' hn) i'⟩
theorem gchg.trans {F F' : Int → Nat → Prop} {A A' : Int → Prop} {s t u : gS} (h : gchg F A s t) (h' : gchg F' A' t u) : gchg (fun k j => F k j ∨ F' k j) (fun k => A k ∨ A' k) s u := ⟨fun k j hn => by
  rw [h'.1 k j (fun z => hn (Or.inr z)), h.1 k j (fun z => hn (Or.inl z))], fun k hn => by
  rw [h'.2 k (fun z => hn (Or.inr z)), h.2 k (fun z => hn (Or.inl z))]⟩
theorem gchg.iter {F : Int → Nat → Prop} {A : Int → Prop} {s t : gS} (h : gchg F A s t) {k : Int} (g : Int → Int) (w : Int → Int) (hA : A k) {n : Int} (hn : 0 ≤ n) : gchg F A s (giter (fun i t => gpA t k (g i) (w i)) t n) :=
  giter_ind (f := fun i t => gpA t k (g i) (w i)) (a := t) (N := n) (fun _ t => gchg F A s t) h (fun i t _ _ ht => ht.pA _ _ hA) n hn (Int.le_refl n)
/-! layings -/
def iRL (s : gS) : Prop := (∀ j : Nat, j < 5 → s.1 400 (6 + j) = s.1 3 j) ∧ (∀ p : Int, 0 ≤ p → p < 6 → s.2 401 p = s.1 (100 + p) 2 ∧ ∀ k : Int, 0 ≤ k → k < s.1 (100 + p) 2 → s.2 402 ((24 * p) + k) = s.2 (100 + p + 10) k ∧ s.2 403 ((24 * p) + k) = s.2 (100 + p + 20) k) ∧ ∀ r : Int, 0 ≤ r → r < 10 → s.2 404 r = s.1 (130 + r) 2 ∧ s.2 405 r = s.1 (130 + r) 1 ∧ ∀ i : Int, 0 ≤ i → i < s.1 (130 + r) 1 → s.2 406 ((120 * r) + i) = s.2 (130 + r + 10) i
def iL (s : gS) : Prop := cV s ∧ cCa s ∧ iRL s
def iJ (s : gS) : Prop := (0 ≤ s.1 5 0 ∧ s.1 5 0 ≤ 1023) ∧ s.1 400 16 = s.1 5 0 ∧ (∀ j : Int, 0 ≤ j → j < 9 → s.2 419 j = s.2 17 j ∧ (0 < s.2 418 j ↔ ¬ s.2 17 j = 0)) ∧ (∀ j c : Int, 0 ≤ j → j < 9 → 0 ≤ c → c < 10 → s.2 420 ((10 * j) + c) = s.2 (300 + j) c ∧ (0 ≤ s.2 (300 + j) c ∧ s.2 (300 + j) c ≤ 10) ∧ (gbit (s.2 17 j) c = 1 → 1 ≤ s.2 (300 + j) c ∧ s.2 (300 + j) c ≤ gones (s.2 17 j)))
def iR (s : gS) : Prop := (0 ≤ s.1 6 4 ∧ s.1 6 4 ≤ 60) ∧ s.1 400 21 = s.1 6 4 ∧ ∀ i : Int, 0 ≤ i → i < s.1 6 4 → s.2 423 i = s.2 19 i ∧ s.2 424 i = s.2 20 i ∧ s.2 425 i = s.2 21 i ∧ s.2 426 i = s.2 22 i
def iT (s : gS) : Prop := cTt s ∧ (0 ≤ s.1 7 3 ∧ s.1 7 3 ≤ 12) ∧ (s.1 400 26 = s.1 7 1 ∧ s.1 400 28 = s.1 7 2 ∧ s.1 400 29 = s.1 7 3) ∧ (∀ i : Int, 0 ≤ i → i < s.1 7 1 → s.2 428 i = s.2 24 i ∧ 0 ≤ s.2 24 i ∧ s.2 24 i ≤ 9) ∧ ∀ i : Int, 0 ≤ i → i < s.1 7 3 → s.2 431 i = s.2 23 i
def iv (s : gS) : Prop := gRg s ∧ iL s ∧ iJ s ∧ iR s ∧ iT s
def fL (k : Int) (j : Nat) : Prop := k = 3 ∨ k = 4 ∨ (100 ≤ k ∧ k < 140) ∨ (k = 400 ∧ 6 ≤ j ∧ j ≤ 10)
def aL (k : Int) : Prop := (9 ≤ k ∧ k ≤ 12) ∨ (100 ≤ k ∧ k < 150) ∨ (401 ≤ k ∧ k ≤ 406)
def fJ (k : Int) (j : Nat) : Prop := k = 5 ∨ (k = 400 ∧ j = 16)
def aJ (k : Int) : Prop := k = 17 ∨ (300 ≤ k ∧ k < 309) ∨ (418 ≤ k ∧ k ≤ 420)
def fR (k : Int) (j : Nat) : Prop := k = 6 ∨ (k = 400 ∧ j = 21)
def aR (k : Int) : Prop := (19 ≤ k ∧ k ≤ 22) ∨ (423 ≤ k ∧ k ≤ 426)
def fT (k : Int) (j : Nat) : Prop := k = 7 ∨ (k = 400 ∧ (j = 26 ∨ j = 28 ∨ j = 29))
def aT (k : Int) : Prop := k = 23 ∨ k = 24 ∨ k = 428 ∨ k = 431
theorem gLaid_eq {s t : gS} {k1 k2 : Int} (h1 : ∀ (k : Int) (j : Nat), fL k j → t.1 k j = s.1 k j) (h2 : ∀ k : Int, aL k → t.2 k = s.2 k) (a1 : 100 ≤ k1 ∧ k1 < 106) (a2 : 130 ≤ k2 ∧ k2 < 140) (h : gLaid s k1 k2) : gLaid t k1 k2 := by
  have e3 : t.1 3 = s.1 3 := funext fun j => h1 3 j (Or.inl rfl)
  have e4 : ∀ j, t.1 4 j = s.1 4 j := fun j => h1 4 j (Or.inr (Or.inl rfl))
  unfold gLaid
  rw [e3, e4, e4, e4, e4, h1 k1 2 (Or.inr (Or.inr (Or.inl (by omega)))), h1 k2 1 (Or.inr (Or.inr (Or.inl (by omega)))), h2 9 (by unfold aL; omega), h2 10 (by unfold aL; omega), h2 11 (by unfold aL; omega), h2 12 (by unfold aL; omega), h2 (k1 + 10) (by unfold aL; omega), h2 (k1 + 20) (by unfold aL; omega), h2 (k2 + 10) (by unfold aL; omega)]
  exact h
theorem cV_eq {s t : gS} (h1 : ∀ (k : Int) (j : Nat), fL k j → t.1 k j = s.1 k j) (h2 : ∀ k : Int, aL k → t.2 k = s.2 k) (h : cV s) : cV t := by
  have e3 : ∀ j, t.1 3 j = s.1 3 j := fun j => h1 3 j (Or.inl rfl)
  refine ⟨?_, fun p a b => ?_, fun r a b => ?_⟩
  · unfold gMs; rw [e3, e3, e3, e3, e3]; exact h.1
  · unfold gPc; rw [h1 (100 + p) 2 (Or.inr (Or.inr (Or.inl (by omega)))), h2 (100 + p + 10) (by unfold aL; omega), h2 (100 + p + 20) (by unfold aL; omega)]; exact h.2.1 p a b
  · unfold gRd; rw [h1 (130 + r) 1 (Or.inr (Or.inr (Or.inl (by omega)))), h1 (130 + r) 2 (Or.inr (Or.inr (Or.inl (by omega)))), h2 (130 + r + 10) (by unfold aL; omega)]; exact h.2.2 r a b
theorem iRL_eq {s t : gS} (h1 : ∀ (k : Int) (j : Nat), fL k j → t.1 k j = s.1 k j) (h2 : ∀ k : Int, aL k → t.2 k = s.2 k) (h : iRL s) : iRL t := by
  refine ⟨fun j hj => ?_, fun p a b => ?_, fun r a b => ?_⟩
  · rw [h1 400 (6 + j) (Or.inr (Or.inr (Or.inr ⟨rfl, by omega, by omega⟩))), h1 3 j (Or.inl rfl)]; exact h.1 j hj
  · rw [h1 (100 + p) 2 (Or.inr (Or.inr (Or.inl (by omega)))), h2 401 (by unfold aL; omega), h2 402 (by unfold aL; omega), h2 403 (by unfold aL; omega), h2 (100 + p + 10) (by unfold aL; omega), h2 (100 + p + 20) (by unfold aL; omega)]; exact h.2.1 p a b
  · rw [h1 (130 + r) 1 (Or.inr (Or.inr (Or.inl (by omega)))), h1 (130 + r) 2 (Or.inr (Or.inr (Or.inl (by omega)))), h2 404 (by unfold aL; omega), h2 405 (by unfold aL; omega), h2 406 (by unfold aL; omega), h2 (130 + r + 10) (by unfold aL; omega)]; exact h.2.2 r a b
theorem iL_eq {s t : gS} (h1 : ∀ (k : Int) (j : Nat), fL k j → t.1 k j = s.1 k j) (h2 : ∀ k : Int, aL k → t.2 k = s.2 k) (h : iL s) : iL t := by
  obtain ⟨a, b, c⟩ := h
  refine ⟨cV_eq h1 h2 a, ?_, iRL_eq h1 h2 c⟩
  have e8 : t.1 4 8 = s.1 4 8 := h1 4 8 (Or.inr (Or.inl rfl))
  rcases b with b | ⟨b1, b2⟩
  · exact Or.inl (by rw [e8]; exact b)
  · refine Or.inr ⟨by rw [e8]; exact b1, ?_⟩
    have hr := (a.2.2 (s.1 4 8) b1.1 (by omega)).2
    rw [e8, h1 (130 + s.1 4 8) 2 (Or.inr (Or.inr (Or.inl (by omega))))]
    exact gLaid_eq h1 h2 (by omega) (by omega) b2
theorem iJ_eq {s t : gS} (h1 : ∀ (k : Int) (j : Nat), fJ k j → t.1 k j = s.1 k j) (h2 : ∀ k : Int, aJ k → t.2 k = s.2 k) (h : iJ s) : iJ t := by
  obtain ⟨a, b, c, d⟩ := h
  refine ⟨by rw [h1 5 0 (Or.inl rfl)]; exact a, by rw [h1 5 0 (Or.inl rfl), h1 400 16 (Or.inr ⟨rfl, rfl⟩)]; exact b, fun j x y => ?_, fun j c' x y x' y' => ?_⟩
  · rw [h2 419 (by unfold aJ; omega), h2 17 (by unfold aJ; omega), h2 418 (by unfold aJ; omega)]; exact c j x y
  · rw [h2 420 (by unfold aJ; omega), h2 17 (by unfold aJ; omega), h2 (300 + j) (by unfold aJ; omega)]; exact d j c' x y x' y'
theorem iR_eq {s t : gS} (h1 : ∀ (k : Int) (j : Nat), fR k j → t.1 k j = s.1 k j) (h2 : ∀ k : Int, aR k → t.2 k = s.2 k) (h : iR s) : iR t := by
  obtain ⟨a, b, c⟩ := h
  refine ⟨by rw [h1 6 4 (Or.inl rfl)]; exact a, by rw [h1 6 4 (Or.inl rfl), h1 400 21 (Or.inr ⟨rfl, rfl⟩)]; exact b, ?_⟩
  rw [h1 6 4 (Or.inl rfl), h2 19 (by unfold aR; omega), h2 20 (by unfold aR; omega), h2 21 (by unfold aR; omega), h2 22 (by unfold aR; omega), h2 423 (by unfold aR; omega), h2 424 (by unfold aR; omega), h2 425 (by unfold aR; omega), h2 426 (by unfold aR; omega)]
  exact c
theorem iT_eq {s t : gS} (h1 : ∀ (k : Int) (j : Nat), fT k j → t.1 k j = s.1 k j) (h2 : ∀ k : Int, aT k → t.2 k = s.2 k) (h : iT s) : iT t := by
  unfold iT cTt at *
  rw [h1 7 1 (Or.inl rfl), h1 7 2 (Or.inl rfl), h1 7 3 (Or.inl rfl), h1 400 26 (Or.inr ⟨rfl, by omega⟩), h1 400 28 (Or.inr ⟨rfl, by omega⟩), h1 400 29 (Or.inr ⟨rfl, by omega⟩), h2 23 (by unfold aT; omega), h2 24 (by unfold aT; omega), h2 428 (by unfold aT; omega), h2 431 (by unfold aT; omega)]
  exact h
theorem gchg.L {F : Int → Nat → Prop} {A : Int → Prop} {s t : gS} (h : gchg F A s t) (hF : ∀ (k : Int) (j : Nat), F k j → ¬ fL k j) (hA : ∀ k : Int, A k → ¬ aL k) (i : iL s) : iL t := iL_eq (fun k j z => h.1 k j (fun y => hF k j y z)) (fun k z => h.2 k (fun y => hA k y z)) i
theorem gchg.J {F : Int → Nat → Prop} {A : Int → Prop} {s t : gS} (h : gchg F A s t) (hF : ∀ (k : Int) (j : Nat), F k j → ¬ fJ k j) (hA : ∀ k : Int, A k → ¬ aJ k) (i : iJ s) : iJ t := iJ_eq (fun k j z => h.1 k j (fun y => hF k j y z)) (fun k z => h.2 k (fun y => hA k y z)) i
theorem gchg.R {F : Int → Nat → Prop} {A : Int → Prop} {s t : gS} (h : gchg F A s t) (hF : ∀ (k : Int) (j : Nat), F k j → ¬ fR k j) (hA : ∀ k : Int, A k → ¬ aR k) (i : iR s) : iR t := iR_eq (fun k j z => h.1 k j (fun y => hF k j y z)) (fun k z => h.2 k (fun y => hA k y z)) i
theorem gchg.T {F : Int → Nat → Prop} {A : Int → Prop} {s t : gS} (h : gchg F A s t) (hF : ∀ (k : Int) (j : Nat), F k j → ¬ fT k j) (hA : ∀ k : Int, A k → ¬ aT k) (i : iT s) : iT t := iT_eq (fun k j z => h.1 k j (fun y => hF k j y z)) (fun k z => h.2 k (fun y => hA k y z)) i
/-! members -/
theorem gsing_same {s : gS} (h : iR s) (c d : Int) : gsing s.2 423 424 425 426 c d (s.1 400 21) = gsing s.2 19 20 21 22 c d (s.1 6 4) := by
  obtain ⟨a, b, k⟩ := h
  rw [b]
  refine giter_congr a.1 (fun i x i0 i1 => ?_)
  obtain ⟨e1, e2, e3, e4⟩ := k i i0 i1
  rw [e1, e2, e3, e4]
theorem sim_may {s : gS} (h : iv s) (p c d : Int) : (if (0 ≤ p ∧ p ≤ 29) ∧ (0 ≤ c ∧ c ≤ 9) ∧ (0 ≤ d ∧ d ≤ 1000) then gand (gshr (gsing s.2 19 20 21 22 c d (s.1 6 4)) p) 1 else -1) = (if (0 ≤ p ∧ p ≤ 29) ∧ (0 ≤ c ∧ c ≤ 9) ∧ (0 ≤ d ∧ d ≤ 1000) then gand (gshr (gsingM s c d) p) 1 else -1) := by
  by_cases z : (0 ≤ p ∧ p ≤ 29) ∧ (0 ≤ c ∧ c ≤ 9) ∧ (0 ≤ d ∧ d ≤ 1000)
  · rw [if_pos z, if_pos z]
    unfold gsingM
    rw [if_pos z.2, gsing_same h.2.2.2.1]
  · rw [if_neg z, if_neg z]
theorem sim_singers {s : gS} (h : iv s) (c d : Int) : (if (0 ≤ c ∧ c ≤ 9) ∧ (0 ≤ d ∧ d ≤ 1000) then gsing s.2 19 20 21 22 c d (s.1 6 4) else -1) = gsingM s c d := by
  unfold gsingM
  rw [gsing_same h.2.2.2.1]
theorem sim_member {s t u : gS} {v w p c f d : Int} (h : iv s) (h7 : if (0 ≤ p ∧ p ≤ 29) ∧ (0 ≤ c ∧ c ≤ 9) ∧ (0 ≤ f ∧ f ≤ 1000) ∧ (f ≤ d ∧ d ≤ 1000) ∧ (s.1 6 4) < 60 then v = (s.1 6 4) + 1 ∧ t = gspan s 19 20 21 22 6 4 p c f d else v = -1 ∧ t = s) (h8 : if (0 ≤ p ∧ p ≤ 29) ∧ (0 ≤ c ∧ c ≤ 9) ∧ (0 ≤ f ∧ f ≤ 1000) ∧ (f ≤ d ∧ d ≤ 1000) ∧ (t.1 400 21) < 60 then w = (t.1 400 21) + 1 ∧ u = gspan t 423 424 425 426 400 21 p c f d else w = -1 ∧ u = t) (hu : gRg u) : v = w ∧ iv u := by
  obtain ⟨hr, iL', iJ', ⟨a, b, k⟩, iT'⟩ := h
  have e : t.1 400 21 = s.1 400 21 := by
    split at h7
    · rw [h7.2]; rfl
    · rw [h7.2]
  rw [e, b] at h8
  by_cases z : (0 ≤ p ∧ p ≤ 29) ∧ (0 ≤ c ∧ c ≤ 9) ∧ (0 ≤ f ∧ f ≤ 1000) ∧ (f ≤ d ∧ d ≤ 1000) ∧ (s.1 6 4) < 60
  · rw [if_pos z] at h7 h8
    obtain ⟨h7a, h7b⟩ := h7
    obtain ⟨h8a, h8b⟩ := h8
    refine ⟨by omega, hu, ?_⟩
    have c1 : gchg (fun k j => (k = 6 ∧ j = 4)) (fun k => 19 ≤ k ∧ k ≤ 22) s t := by
      rw [h7b]
      exact (((((gchg.rf _ _ s).pA _ _ (by omega)).pA _ _ (by omega)).pA _ _ (by omega)).pA _ _ (by omega)).pI _ ⟨rfl, rfl⟩
    have c2 : gchg (fun k j => (k = 400 ∧ j = 21)) (fun k => 423 ≤ k ∧ k ≤ 426) t u := by
      rw [h8b]
      exact (((((gchg.rf _ _ t).pA _ _ (by omega)).pA _ _ (by omega)).pA _ _ (by omega)).pA _ _ (by omega)).pI _ ⟨rfl, rfl⟩
    have c3 := c1.trans c2
    refine ⟨c3.L (fun k j => by unfold fL; omega) (fun k => by unfold aL; omega) iL', c3.J (fun k j => by unfold fJ; omega) (fun k => by unfold aJ; omega) iJ', ?_, c3.T (fun k j => by unfold fT; omega) (fun k => by unfold aT; omega) iT'⟩
    have u64 : u.1 6 4 = s.1 6 4 + 1 := by rw [h8b]; show t.1 6 4 = _; rw [h7b]; rfl
    have u21 : u.1 400 21 = s.1 6 4 + 1 := by rw [h8b]; show t.1 400 21 + 1 = _; rw [e, b]
    refine ⟨by omega, by omega, fun i i0 i1 => ?_⟩
    have T2 : ∀ (q i : Int), t.2 q i = if q = 22 ∧ i = s.1 6 4 then d else if q = 21 ∧ i = s.1 6 4 then f else if q = 20 ∧ i = s.1 6 4 then c else if q = 19 ∧ i = s.1 6 4 then p else s.2 q i := fun q i => by rw [h7b]; rfl
    have U2 : ∀ (q i : Int), u.2 q i = if q = 426 ∧ i = s.1 6 4 then d else if q = 425 ∧ i = s.1 6 4 then f else if q = 424 ∧ i = s.1 6 4 then c else if q = 423 ∧ i = s.1 6 4 then p else t.2 q i := fun q i => by
      rw [h8b, ← b, ← e]; rfl
    by_cases ei : i = s.1 6 4
    · subst ei
      simp [U2, T2]
    · obtain ⟨e1, e2, e3, e4⟩ := k i i0 (by omega)
      simp [U2, T2, ei, e1, e2, e3, e4]
  · rw [if_neg z] at h7 h8
    obtain ⟨h7a, h7b⟩ := h7
    obtain ⟨h8a, h8b⟩ := h8
    subst h7b
    subst h8b
    exact ⟨by omega, hr, iL', iJ', ⟨a, b, k⟩, iT'⟩
/-! hours -/
theorem sim_perform {s t u : gS} {v w c : Int} (h : iv s) (h7 : if (0 ≤ c ∧ c ≤ 9) ∧ s.1 7 1 < 12 then v = s.1 7 1 ∧ t = gpI (gpA s 24 (s.1 7 1) c) 7 1 ((s.1 7 1) + 1) else v = -1 ∧ t = s) (h8 : if (0 ≤ c ∧ c ≤ 9) ∧ t.1 400 26 < 12 then w = t.1 400 26 ∧ u = gpI (gpA t 428 (t.1 400 26) c) 400 26 ((t.1 400 26) + 1) else w = -1 ∧ u = t) (hu : gRg u) : v = w ∧ iv u := by
  obtain ⟨hr, iL', iJ', iR', ⟨⟨a1, a2⟩, a3, ⟨a4, a5, a6⟩, a7, a8⟩⟩ := h
  have e : t.1 400 26 = s.1 7 1 := by
    rw [← a4]
    split at h7
    · rw [h7.2]; rfl
    · rw [h7.2]
  rw [e] at h8
  by_cases z : (0 ≤ c ∧ c ≤ 9) ∧ s.1 7 1 < 12
  · rw [if_pos z] at h7 h8
    obtain ⟨h7a, h7b⟩ := h7
    obtain ⟨h8a, h8b⟩ := h8
    refine ⟨by omega, hu, ?_⟩
    have c1 : gchg (fun k j => (k = 7 ∧ j = 1)) (fun k => k = 24) s t := by
      rw [h7b]; exact ((gchg.rf _ _ s).pA _ _ (by omega)).pI _ ⟨rfl, rfl⟩
    have c2 : gchg (fun k j => (k = 400 ∧ j = 26)) (fun k => k = 428) t u := by
      rw [h8b]; exact ((gchg.rf _ _ t).pA _ _ (by omega)).pI _ ⟨rfl, rfl⟩
    have c3 := c1.trans c2
    refine ⟨c3.L (fun k j => by unfold fL; omega) (fun k => by unfold aL; omega) iL', c3.J (fun k j => by unfold fJ; omega) (fun k => by unfold aJ; omega) iJ', c3.R (fun k j => by unfold fR; omega) (fun k => by unfold aR; omega) iR', ?_⟩
    have u71 : u.1 7 1 = s.1 7 1 + 1 := by rw [h8b]; show t.1 7 1 = _; rw [h7b]; rfl
    have u26 : u.1 400 26 = s.1 7 1 + 1 := by rw [h8b]; rfl
    have o1 : ∀ j, ¬ j = 1 → u.1 7 j = s.1 7 j := fun j hj => c3.1 7 j (by omega)
    have o2 : ∀ j, ¬ j = 26 → u.1 400 j = s.1 400 j := fun j hj => c3.1 400 j (by omega)
    refine ⟨⟨by omega, by rw [o1 2 (by decide)]; exact a2⟩, by rw [o1 3 (by decide)]; exact a3, ⟨by omega, by rw [o1 2 (by decide), o2 28 (by decide)]; exact a5, by rw [o1 3 (by decide), o2 29 (by decide)]; exact a6⟩, fun i i0 i1 => ?_, ?_⟩
    · have T2 : ∀ (q i : Int), t.2 q i = if q = 24 ∧ i = s.1 7 1 then c else s.2 q i := fun q i => by rw [h7b]; rfl
      have U2 : ∀ (q i : Int), u.2 q i = if q = 428 ∧ i = s.1 7 1 then c else t.2 q i := fun q i => by rw [h8b]; rfl
      by_cases ei : i = s.1 7 1
      · subst ei
        simp [U2, T2]
        omega
      · have := a7 i i0 (by omega)
        simp [U2, T2, ei]
        omega
    · rw [o1 3 (by decide), c3.2 431 (by omega), c3.2 23 (by omega)]; exact a8
  · rw [if_neg z] at h7 h8
    obtain ⟨h7a, h7b⟩ := h7
    obtain ⟨h8a, h8b⟩ := h8
    subst h7b
    subst h8b
    exact ⟨by omega, hr, iL', iJ', iR', ⟨⟨a1, a2⟩, a3, ⟨a4, a5, a6⟩, a7, a8⟩⟩
theorem sim_clear {s t u : gS} {v w : Int} (h : iv s) (h7 : v = s.1 7 1 ∧ t = gpI s 7 1 0) (h8 : w = t.1 400 26 ∧ u = gpI t 400 26 0) (hu : gRg u) : v = w ∧ iv u := by
  obtain ⟨hr, iL', iJ', iR', ⟨⟨a1, a2⟩, a3, ⟨a4, a5, a6⟩, a7, a8⟩⟩ := h
  obtain ⟨h7a, h7b⟩ := h7
  obtain ⟨h8a, h8b⟩ := h8
  have e : t.1 400 26 = s.1 7 1 := by rw [← a4, h7b]; rfl
  refine ⟨by omega, hu, ?_⟩
  have c1 : gchg (fun k j => (k = 7 ∧ j = 1)) (fun _ => False) s t := by
    rw [h7b]; exact (gchg.rf _ _ s).pI _ ⟨rfl, rfl⟩
  have c2 : gchg (fun k j => (k = 400 ∧ j = 26)) (fun _ => False) t u := by
    rw [h8b]; exact (gchg.rf _ _ t).pI _ ⟨rfl, rfl⟩
  have c3 := c1.trans c2
  refine ⟨c3.L (fun k j => by unfold fL; omega) (fun k => by simp) iL', c3.J (fun k j => by unfold fJ; omega) (fun k => by simp) iJ', c3.R (fun k j => by unfold fR; omega) (fun k => by simp) iR', ?_⟩
  have u71 : u.1 7 1 = 0 := by rw [h8b]; show t.1 7 1 = _; rw [h7b]; rfl
  have u26 : u.1 400 26 = 0 := by rw [h8b]; rfl
  have o1 : ∀ j, ¬ j = 1 → u.1 7 j = s.1 7 j := fun j hj => c3.1 7 j (by omega)
  have o2 : ∀ j, ¬ j = 26 → u.1 400 j = s.1 400 j := fun j hj => c3.1 400 j (by omega)
  refine ⟨⟨by omega, by rw [o1 2 (by decide)]; exact a2⟩, by rw [o1 3 (by decide)]; exact a3, ⟨by omega, by rw [o1 2 (by decide), o2 28 (by decide)]; exact a5, by rw [o1 3 (by decide), o2 29 (by decide)]; exact a6⟩, fun i i0 i1 => by omega, ?_⟩
  rw [o1 3 (by decide), c3.2 431 (by simp), c3.2 23 (by simp)]; exact a8
theorem sim_halls {s t u : gS} {v w n : Int} (h : iv s) (h7 : if (1 ≤ n ∧ n ≤ 4) then v = s.1 7 2 ∧ t = gpI s 7 2 n else v = -1 ∧ t = s) (h8 : if (1 ≤ n ∧ n ≤ 4) then w = t.1 400 28 ∧ u = gpI t 400 28 n else w = -1 ∧ u = t) (hu : gRg u) : v = w ∧ iv u := by
  obtain ⟨hr, iL', iJ', iR', ⟨⟨a1, a2⟩, a3, ⟨a4, a5, a6⟩, a7, a8⟩⟩ := h
  by_cases z : 1 ≤ n ∧ n ≤ 4
  · rw [if_pos z] at h7 h8
    obtain ⟨h7a, h7b⟩ := h7
    obtain ⟨h8a, h8b⟩ := h8
    have e : t.1 400 28 = s.1 7 2 := by rw [← a5, h7b]; rfl
    refine ⟨by omega, hu, ?_⟩
    have c1 : gchg (fun k j => (k = 7 ∧ j = 2)) (fun _ => False) s t := by
      rw [h7b]; exact (gchg.rf _ _ s).pI _ ⟨rfl, rfl⟩
    have c2 : gchg (fun k j => (k = 400 ∧ j = 28)) (fun _ => False) t u := by
      rw [h8b]; exact (gchg.rf _ _ t).pI _ ⟨rfl, rfl⟩
    have c3 := c1.trans c2
    refine ⟨c3.L (fun k j => by unfold fL; omega) (fun k => by simp) iL', c3.J (fun k j => by unfold fJ; omega) (fun k => by simp) iJ', c3.R (fun k j => by unfold fR; omega) (fun k => by simp) iR', ?_⟩
    have u72 : u.1 7 2 = n := by rw [h8b]; show t.1 7 2 = _; rw [h7b]; rfl
    have u28 : u.1 400 28 = n := by rw [h8b]; rfl
    have o1 : ∀ j, ¬ j = 2 → u.1 7 j = s.1 7 j := fun j hj => c3.1 7 j (by omega)
    have o2 : ∀ j, ¬ j = 28 → u.1 400 j = s.1 400 j := fun j hj => c3.1 400 j (by omega)
    refine ⟨⟨by rw [o1 1 (by decide)]; exact a1, by omega⟩, by rw [o1 3 (by decide)]; exact a3, ⟨by rw [o1 1 (by decide), o2 26 (by decide)]; exact a4, by omega, by rw [o1 3 (by decide), o2 29 (by decide)]; exact a6⟩, ?_, ?_⟩
    · rw [o1 1 (by decide), c3.2 428 (by simp), c3.2 24 (by simp)]; exact a7
    · rw [o1 3 (by decide), c3.2 431 (by simp), c3.2 23 (by simp)]; exact a8
  · rw [if_neg z] at h7 h8
    obtain ⟨h7a, h7b⟩ := h7
    obtain ⟨h8a, h8b⟩ := h8
    subst h7b
    subst h8b
    exact ⟨by omega, hr, iL', iJ', iR', ⟨⟨a1, a2⟩, a3, ⟨a4, a5, a6⟩, a7, a8⟩⟩
theorem sim_hour {s : gS} (h : iv s) (i : Int) : (if 0 ≤ i ∧ i < s.1 7 3 then s.2 23 i else -1) = (if 0 ≤ i ∧ i < s.1 400 29 then s.2 431 i else -1) := by
  obtain ⟨hr, iL', iJ', iR', ⟨⟨a1, a2⟩, a3, ⟨a4, a5, a6⟩, a7, a8⟩⟩ := h
  rw [a6]
  by_cases z : 0 ≤ i ∧ i < s.1 7 3
  · rw [if_pos z, if_pos z, a8 i z.1 z.2]
  · rw [if_neg z, if_neg z]
theorem sim_hours {s t u : gS} {v w d : Int} (h : iv s) (h7 : ((0 ≤ d ∧ d ≤ 1000) → ghours s t d v) ∧ (¬ (0 ≤ d ∧ d ≤ 1000) → v = -1 ∧ t = s)) (h8 : ((0 ≤ d ∧ d ≤ 1000) → mhours t u d w) ∧ (¬ (0 ≤ d ∧ d ≤ 1000) → w = -1 ∧ u = t)) (hu : gRg u) : v = w ∧ iv u := by
  by_cases z : 0 ≤ d ∧ d ≤ 1000
  · obtain ⟨hr, iL', iJ', iR', ⟨⟨a1, a2⟩, a3, ⟨a4, a5, a6⟩, a7, a8⟩⟩ := h
    obtain ⟨g1, g2, g3, g4⟩ := h7.1 z
    obtain ⟨m1, m2, m3, m4⟩ := h8.1 z
    have c1 : gchg (fun k j => (k = 7 ∧ j = 3)) (fun k => k = 23 ∨ k = 25 ∨ k = 26 ∨ k = 27) s t := ⟨g1, fun k hk => g3 k (by omega) (by omega) (by omega) (by omega)⟩
    have c2 : gchg (fun k j => (k = 400 ∧ j = 29)) (fun k => k = 431 ∨ k = 432 ∨ k = 433) t u := ⟨m1, fun k hk => m3 k (by omega) (by omega) (by omega)⟩
    have c3 := c1.trans c2
    have iRt : iR t := c1.R (fun k j => by unfold fR; omega) (fun k => by unfold aR; omega) iR'
    have t26 : t.1 400 26 = s.1 7 1 := by rw [c1.1 400 26 (by omega), a4]
    have t28 : t.1 400 28 = s.1 7 2 := by rw [c1.1 400 28 (by omega), a5]
    rw [t26, t28] at m4
    have ecl : ∀ p q : Int, 0 ≤ q → q < p → p < s.1 7 1 → (mMt t d p q ↔ gM s d p q) := fun p q q0 qp pn => by
      have hS : ∀ i : Int, 0 ≤ i → i < s.1 7 1 → gsingM t (t.2 428 i) d = gS25 s d i := fun i i0 i1 => by
        obtain ⟨b1, b2⟩ := a7 i i0 i1
        unfold gsingM gS25
        rw [c1.2 428 (by omega), b1, if_pos ⟨b2, z⟩, gsing_same iRt]
        unfold gsing
        rw [c1.2 19 (by omega), c1.2 20 (by omega), c1.2 21 (by omega), c1.2 22 (by omega), c1.1 6 4 (by omega)]
      unfold mMt gM
      rw [hS p (by omega) pn, hS q q0 (by omega), c1.2 428 (by omega), (a7 p (by omega) pn).1, (a7 q q0 (by omega)).1]
    obtain ⟨e1, e2⟩ := gbest_uniq g4 (gbest_cl ecl m4)
    refine ⟨e1, hu, c3.L (fun k j => by unfold fL; omega) (fun k => by unfold aL; omega) iL', c3.J (fun k j => by unfold fJ; omega) (fun k => by unfold aJ; omega) iJ', c3.R (fun k j => by unfold fR; omega) (fun k => by unfold aR; omega) iR', ?_⟩
    have u73 : u.1 7 3 = s.1 7 1 := by rw [c2.1 7 3 (by omega), g2]
    have u29 : u.1 400 29 = s.1 7 1 := by rw [m2, t26]
    refine ⟨⟨by rw [c3.1 7 1 (by omega)]; exact a1, by rw [c3.1 7 2 (by omega)]; exact a2⟩, by omega, ⟨by rw [c3.1 400 26 (by omega), c3.1 7 1 (by omega)]; exact a4, by rw [c3.1 400 28 (by omega), c3.1 7 2 (by omega)]; exact a5, by omega⟩, ?_, fun i i0 i1 => ?_⟩
    · rw [c3.1 7 1 (by omega), c3.2 428 (by omega), c3.2 24 (by omega)]; exact a7
    · rw [u73] at i1
      rw [c2.2 23 (by omega)]
      exact e2 i i0 i1
  · obtain ⟨h7a, h7b⟩ := h7.2 z
    obtain ⟨h8a, h8b⟩ := h8.2 z
    subst h7b
    subst h8b
    exact ⟨by omega, h⟩
/-! the draw -/
theorem sim_draw {s t u : gS} {v w n g i : Int} (h : iv s) (h7 : if (1 ≤ n ∧ n ≤ 12) ∧ (0 ≤ i ∧ i ≤ n - 1) then v = t.2 8 i ∧ gdrawn s t 8 n g else v = -1 ∧ t = s) (h8 : if (1 ≤ n ∧ n ≤ 12) ∧ (0 ≤ i ∧ i ≤ n - 1) then w = u.2 434 i ∧ gdrawn t u 434 n g else w = -1 ∧ u = t) (hu : gRg u) : v = w ∧ iv u := by
  by_cases z : (1 ≤ n ∧ n ≤ 12) ∧ (0 ≤ i ∧ i ≤ n - 1)
  · rw [if_pos z] at h7 h8
    obtain ⟨hr, iL', iJ', iR', iT'⟩ := h
    obtain ⟨h7a, g1, g2, g3⟩ := h7
    obtain ⟨h8a, m1, m2, m3⟩ := h8
    have c1 : gchg (fun _ _ => False) (fun k => k = 8) s t := ⟨fun k j _ => by rw [g1], fun k hk => g2 k hk⟩
    have c2 : gchg (fun _ _ => False) (fun k => k = 434) t u := ⟨fun k j _ => by rw [m1], fun k hk => m2 k hk⟩
    have c3 := c1.trans c2
    refine ⟨by rw [h7a, h8a, g3 i z.2.1 (by omega), m3 i z.2.1 (by omega)], hu, c3.L (fun k j => by simp) (fun k => by unfold aL; omega) iL', c3.J (fun k j => by simp) (fun k => by unfold aJ; omega) iJ', c3.R (fun k j => by simp) (fun k => by unfold aR; omega) iR', c3.T (fun k j => by simp) (fun k => by unfold aT; omega) iT'⟩
  · rw [if_neg z] at h7 h8
    obtain ⟨h7a, h7b⟩ := h7
    obtain ⟨h8a, h8b⟩ := h8
    subst h7b
    subst h8b
    exact ⟨by omega, h⟩

