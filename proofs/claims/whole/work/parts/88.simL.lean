/-! ===== layings of both ===== -/
theorem gCst_same {M M' : Nat → Int} {rd rd' pt pt' bt bt' : Int → Int} {k i t all : Int} (hM : ∀ j : Nat, j < 4 → M j = M' j) (hr : ∀ q : Int, 0 ≤ q → q < all → rd q = rd' q) (hp : pt k = pt' k) (hb : bt k = bt' k) (i0 : 0 ≤ i) (t0 : 0 ≤ t) (t1 : t ≤ all - i) : gCst M rd pt bt k i t = gCst M' rd' pt' bt' k i t := by
  unfold gCst
  rw [hM 0 (by decide), hM 1 (by decide), hM 2 (by decide), hM 3 (by decide), hb]
  congr 1
  exact gsum_congr t0 (fun q a b => by rw [hr (i + q) (by omega) (by omega), hp])
theorem gDP_uniq {M M' : Nat → Int} {rd rd' pt pt' bt bt' : Int → Int} {n all : Int} {B B' : Int → Int → Int} (hM : ∀ j : Nat, j < 4 → M j = M' j) (hr : ∀ q : Int, 0 ≤ q → q < all → rd q = rd' q) (hp : ∀ k : Int, 0 ≤ k → k < n → pt k = pt' k) (hb : ∀ k : Int, 0 ≤ k → k < n → bt k = bt' k) (h : gDP M rd pt bt n all B) (h' : gDP M' rd' pt' bt' n all B') : ∀ k i : Int, 0 ≤ k → k ≤ n → 0 ≤ i → i ≤ all → B k i = B' k i := by
  have key : ∀ (d : Nat) (k i : Int), k = n - d → 0 ≤ k → 0 ≤ i → i ≤ all → B k i = B' k i := by
    intro d
    induction d with
    | zero =>
      intro k i hk k0 i0 i1
      have e : k = n := by omega
      rw [e, h.1 i i0 i1, h'.1 i i0 i1]
    | succ d ih =>
      intro k i hk k0 i0 i1
      refine gMn.uniq ((h.2 k i k0 (by omega) i0 i1).congr (fun j a b => ?_)) (h'.2 k i k0 (by omega) i0 i1)
      rw [gCst_same hM hr (hp k k0 (by omega)) (hb k k0 (by omega)) i0 a (by omega), ih (k + 1) (i + j) (by omega) (by omega) (by omega) (by omega)]
  intro k i k0 k1 i0 i1
  exact key (n - k).toNat k i (by omega) k0 i0 i1
theorem gTk_uniq {M M' : Nat → Int} {rd rd' pt pt' bt bt' : Int → Int} {n all : Int} {B B' : Int → Int → Int} {pos pos' take take' : Int → Int} (ha : 0 ≤ all) (hM : ∀ j : Nat, j < 4 → M j = M' j) (hr : ∀ q : Int, 0 ≤ q → q < all → rd q = rd' q) (hp : ∀ k : Int, 0 ≤ k → k < n → pt k = pt' k) (hb : ∀ k : Int, 0 ≤ k → k < n → bt k = bt' k) (hB : ∀ k i : Int, 0 ≤ k → k ≤ n → 0 ≤ i → i ≤ all → B k i = B' k i) (h : gTk M rd pt bt n all B pos take) (h' : gTk M' rd' pt' bt' n all B' pos' take') : ∀ k : Int, 0 ≤ k → k < n → pos k = pos' k ∧ take k = take' k := by
  have st : ∀ k : Int, 0 ≤ k → k < n → pos k = pos' k → take k = take' k := by
    intro k k0 k1 e
    obtain ⟨a1, a2, a3, a4⟩ := h.2 k k0 k1
    obtain ⟨b1, b2, b3, b4⟩ := h'.2 k k0 k1
    have hpos := gTk_pos h ha k k0 (by omega)
    rw [← e] at b1 b2 b3 b4
    have eq : ∀ t : Int, 0 ≤ t → t ≤ all - pos k → gCst M rd pt bt k (pos k) t + B (k + 1) (pos k + t) = gCst M' rd' pt' bt' k (pos k) t + B' (k + 1) (pos k + t) := fun t t0 t1 => by
      rw [gCst_same hM hr (hp k k0 k1) (hb k k0 k1) hpos.1 t0 t1, hB (k + 1) (pos k + t) (by omega) (by omega) (by omega) (by omega)]
    have eB := hB k (pos k) k0 (by omega) hpos.1 hpos.2
    rcases Int.lt_trichotomy (take k) (take' k) with l | l | l
    · exact absurd (by rw [← eq _ a1.1 a1.2, a3, eB]) (b4 (take k) a1.1 l)
    · exact l
    · exact absurd (by rw [eq _ b1.1 b1.2, b3, eB]) (a4 (take' k) b1.1 l)
  have key : ∀ d : Nat, (d : Int) ≤ n → pos d = pos' d := by
    intro d
    induction d with
    | zero => intro _; exact h.1.trans h'.1.symm
    | succ d ih =>
      intro hd
      have e := ih (by omega)
      have e2 := st d (by omega) (by omega) e
      rw [show ((d + 1 : Nat) : Int) = (d : Int) + 1 by omega, (h.2 d (by omega) (by omega)).2.1, (h'.2 d (by omega) (by omega)).2.1, e, e2]
  intro k k0 k1
  have e := key k.toNat (by omega)
  rw [Int.toNat_of_nonneg k0] at e
  exact ⟨e, st k k0 k1 e⟩
theorem gof_same {rd rd' : Int → Int} {p p' t : Int} (t0 : 0 ≤ t) (hr : ∀ q : Int, 0 ≤ q → q < t → rd q = rd' q) (hp : p = p') : gof rd p t = gof rd' p' t := by
  subst hp
  unfold gof
  rw [gsum_congr (f := fun q => if rd q = -1 then 0 else 1) (g := fun q => if rd' q = -1 then 0 else 1) t0 (fun q a b => by rw [hr q a b]), gsum_congr (f := fun q => if rd q = -1 then 0 else rd q - p) (g := fun q => if rd' q = -1 then 0 else rd' q - p) t0 (fun q a b => by rw [hr q a b])]
theorem gof_0 (rd : Int → Int) (p : Int) : gof rd p 0 = -100000 := if_pos rfl
theorem mV_of {s : gS} (h : iL s) : mV s := by
  obtain ⟨⟨hm, hp, hr⟩, -, r1, r2, r3⟩ := h
  refine ⟨?_, fun r a b => ?_, fun p a b => ?_⟩
  · have e0 := r1 0 (by decide); have e1 := r1 1 (by decide); have e2 := r1 2 (by decide); have e3 := r1 3 (by decide); have e4 := r1 4 (by decide)
    unfold mMs
    rw [show s.1 400 6 = s.1 3 0 from e0, show s.1 400 7 = s.1 3 1 from e1, show s.1 400 8 = s.1 3 2 from e2, show s.1 400 9 = s.1 3 3 from e3, show s.1 400 10 = s.1 3 4 from e4]
    exact hm
  · obtain ⟨c1, c2, c3⟩ := r3 r a b
    obtain ⟨⟨d1, d2⟩, d3⟩ := hr r a b
    refine ⟨by rw [c1]; exact d3, by rw [c2]; exact d1, fun i i0 i1 => ?_⟩
    rw [c2] at i1
    rw [c3 i i0 i1]; exact d2 i i0 i1
  · obtain ⟨c1, c2⟩ := r2 p a b
    obtain ⟨d1, d2⟩ := hp p a b
    refine ⟨by rw [c1]; exact d1, fun k k0 k1 => ?_⟩
    rw [c1] at k1
    rw [(c2 k k0 k1).1, (c2 k k0 k1).2]; exact d2 k k0 k1
theorem chas_iv {s t : gS} {r : Int} (h : iv s) (ht : gRg t) (hr : 0 ≤ r ∧ r ≤ 9) (hc : chas s t r) : iv t ∧ gLaid t (100 + t.1 (130 + r) 2) (130 + r) := by
  obtain ⟨c1, c2, c3, c4⟩ := hc
  obtain ⟨h0, ⟨hV, hCa, hRL⟩, hJ, hR, hT⟩ := h
  have cg : gchg (fun k _ => k = 4) (fun k => (9 ≤ k ∧ k ≤ 12) ∨ (14 ≤ k ∧ k ≤ 16) ∨ (200 ≤ k ∧ k < 225)) s t := ⟨fun k j hk => c1 k j hk, fun k hk => c3 k (by omega) (by omega) (by omega)⟩
  have e2 : t.1 (130 + r) 2 = s.1 (130 + r) 2 := c1 _ _ (by omega)
  have hl : gLaid t (100 + t.1 (130 + r) 2) (130 + r) := by rw [e2]; exact c4
  have hV' : cV t := by
    refine ⟨?_, fun p a b => ?_, fun q a b => ?_⟩
    · unfold gMs; rw [c1 3 0 (by decide), c1 3 1 (by decide), c1 3 2 (by decide), c1 3 3 (by decide), c1 3 4 (by decide)]; exact hV.1
    · unfold gPc; rw [c1 (100 + p) 2 (by omega), cg.2 (100 + p + 10) (by omega), cg.2 (100 + p + 20) (by omega)]; exact hV.2.1 p a b
    · unfold gRd; rw [c1 (130 + q) 1 (by omega), c1 (130 + q) 2 (by omega), cg.2 (130 + q + 10) (by omega)]; exact hV.2.2 q a b
  have hRL' : iRL t := by
    refine ⟨fun j hj => ?_, fun p a b => ?_, fun q a b => ?_⟩
    · rw [c1 400 (6 + j) (by decide), c1 3 j (by decide)]; exact hRL.1 j hj
    · rw [c1 (100 + p) 2 (by omega), cg.2 401 (by omega), cg.2 402 (by omega), cg.2 403 (by omega), cg.2 (100 + p + 10) (by omega), cg.2 (100 + p + 20) (by omega)]; exact hRL.2.1 p a b
    · rw [c1 (130 + q) 1 (by omega), c1 (130 + q) 2 (by omega), cg.2 404 (by omega), cg.2 405 (by omega), cg.2 406 (by omega), cg.2 (130 + q + 10) (by omega)]; exact hRL.2.2 q a b
  exact ⟨⟨ht, ⟨hV', Or.inr ⟨by rw [c2]; exact hr, by rw [c2]; exact hl⟩, hRL'⟩, cg.J (fun k j => by unfold fJ; omega) (fun k => by unfold aJ; omega) hJ, cg.R (fun k j => by unfold fR; omega) (fun k => by unfold aR; omega) hR, cg.T (fun k j => by unfold fT; omega) (fun k => by unfold aT; omega) hT⟩, hl⟩
theorem mlays_iv {t u : gS} {r w : Int} (h : iv t) (hu : gRg u) (hm : mlays t u r w) : iv u := by
  by_cases z : t.2 401 (t.2 404 r) = 0
  · rw [(hm.1 z).2]; exact h
  · obtain ⟨⟨m1, m2⟩, -⟩ := hm.2 z
    have cg : gchg (fun _ _ => False) (fun k => 412 ≤ k ∧ k ≤ 416) t u := ⟨fun k j _ => by rw [m1], fun k hk => m2 k hk⟩
    exact ⟨hu, cg.L (fun k j => by simp) (fun k => by unfold aL; omega) h.2.1, cg.J (fun k j => by simp) (fun k => by unfold aJ; omega) h.2.2.1, cg.R (fun k j => by simp) (fun k => by unfold aR; omega) h.2.2.2.1, cg.T (fun k j => by simp) (fun k => by unfold aT; omega) h.2.2.2.2⟩
/-- the two layings are one -/
theorem laid_same {t u : gS} {r w : Int} (h : iv t) (hr : 0 ≤ r ∧ r ≤ 9) (hn : ¬ t.1 (100 + t.1 (130 + r) 2) 2 = 0) (hl : gLaid t (100 + t.1 (130 + r) 2) (130 + r)) (hm : mlays t u r w) : w = t.1 4 5 ∧ (∀ k : Int, 0 ≤ k → k < t.1 (100 + t.1 (130 + r) 2) 2 → u.2 413 k = t.2 10 k ∧ (if u.2 413 k = 0 then -1 else u.2 414 k) = t.2 9 k ∧ (if u.2 416 k = 0 then -100000 else u.2 415 k) = t.2 11 k ∧ mfl u k = t.2 12 k) ∧ mstold u (t.1 (100 + t.1 (130 + r) 2) 2) = t.1 4 6 ∧ gsum (fun k => mfl u k) (t.1 (100 + t.1 (130 + r) 2) 2) = t.1 4 7 := by
  obtain ⟨h0, ⟨hV, hCa, r1, r2, r3⟩, hJ, hR, hT⟩ := h
  obtain ⟨q1, q2, q3⟩ := r3 r hr.1 (by omega)
  obtain ⟨⟨d1, d2⟩, d3⟩ := hV.2.2 r hr.1 (by omega)
  obtain ⟨p1, p2⟩ := r2 (t.1 (130 + r) 2) d3.1 d3.2
  obtain ⟨g1, g2⟩ := hV.2.1 (t.1 (130 + r) 2) d3.1 d3.2
  have hz : ¬ t.2 401 (t.2 404 r) = 0 := by rw [q1, p1]; exact hn
  obtain ⟨⟨m1, m2⟩, ⟨B', pos', hDP', hTk', hw, hno⟩, -⟩ := hm.2 hz
  have u401 : u.2 401 = t.2 401 := m2 _ (by decide)
  have u402 : u.2 402 = t.2 402 := m2 _ (by decide)
  have u403 : u.2 403 = t.2 403 := m2 _ (by decide)
  have u404 : u.2 404 = t.2 404 := m2 _ (by decide)
  have u405 : u.2 405 = t.2 405 := m2 _ (by decide)
  have u406 : u.2 406 = t.2 406 := m2 _ (by decide)
  have en : u.2 401 (u.2 404 r) = t.1 (100 + t.1 (130 + r) 2) 2 := by rw [u401, u404, q1, p1]
  have ea : u.2 405 r = t.1 (130 + r) 1 := by rw [u405, q2]
  rw [en, ea] at hDP' hTk'
  rw [en] at hno
  obtain ⟨e44, B, pos, hDP, hTk, e45, hk, e46, e47⟩ := hl
  have hM : ∀ j : Nat, j < 4 → t.1 3 j = mM u j := fun j hj => by unfold mM; rw [m1]; exact (r1 j (by omega)).symm
  have hrd : ∀ q : Int, 0 ≤ q → q < t.1 (130 + r) 1 → t.2 (130 + r + 10) q = mRdF u r q := fun q a b => by unfold mRdF; rw [u406]; exact (q3 q a b).symm
  have hpt : ∀ k : Int, 0 ≤ k → k < t.1 (100 + t.1 (130 + r) 2) 2 → t.2 (100 + t.1 (130 + r) 2 + 10) k = mPtF u (u.2 404 r) k := fun k a b => by unfold mPtF; rw [u402, u404, q1]; exact (p2 k a b).1.symm
  have hbt : ∀ k : Int, 0 ≤ k → k < t.1 (100 + t.1 (130 + r) 2) 2 → t.2 (100 + t.1 (130 + r) 2 + 20) k = mBtF u (u.2 404 r) k := fun k a b => by unfold mBtF; rw [u403, u404, q1]; exact (p2 k a b).2.symm
  have hB := gDP_uniq hM hrd hpt hbt hDP hDP'
  have hP := gTk_uniq d1.1 hM hrd hpt hbt hB hTk hTk'
  have hoff : ∀ k : Int, 0 ≤ k → k < t.1 (100 + t.1 (130 + r) 2) 2 → gof (fun q => t.2 (130 + r + 10) (pos k + q)) (t.2 (100 + t.1 (130 + r) 2 + 10) k) (t.2 10 k) = gof (fun q => mRdF u r (pos' k + q)) (mPtF u (u.2 404 r) k) (u.2 413 k) := fun k a b => by
    obtain ⟨f1, f2⟩ := hP k a b
    obtain ⟨k1, -⟩ := hTk.2 k a b
    have hpos := gTk_pos hTk d1.1 k a (by omega)
    rw [← f1, ← f2]
    exact gof_same k1.1 (fun q x y => hrd (pos k + q) (by omega) (by omega)) (hpt k a b)
  generalize hO : (fun k => gof (fun q => t.2 (130 + r + 10) (pos k + q)) (t.2 (100 + t.1 (130 + r) 2 + 10) k) (t.2 10 k)) = O at *
  have hO' : ∀ k, gof (fun q => t.2 (130 + r + 10) (pos k + q)) (t.2 (100 + t.1 (130 + r) 2 + 10) k) (t.2 10 k) = O k := fun k => by rw [← hO]
  have h416 : ∀ k : Int, 0 ≤ k → k < t.1 (100 + t.1 (130 + r) 2) 2 → (u.2 416 k = if O k = -100000 then 0 else 1) ∧ (u.2 415 k = if O k = -100000 then 0 else O k) := fun k a b => by
    obtain ⟨-, x, y⟩ := hno k a b
    rw [← hoff k a b, hO' k] at x y
    exact ⟨x, y⟩
  have hbef : ∀ k : Int, 0 ≤ k → k ≤ t.1 (100 + t.1 (130 + r) 2) 2 → mbef u k = glst O k := fun k a b => giter_congr a (fun q x y z => by
    obtain ⟨c1, c2⟩ := h416 q y (by omega)
    by_cases e : O q = -100000
    · rw [if_pos e] at c1; rw [if_pos c1, if_pos e]
    · rw [if_neg e] at c1 c2; rw [if_neg (by omega), if_neg e, c2])
  have hfl : ∀ k : Int, 0 ≤ k → k < t.1 (100 + t.1 (130 + r) 2) 2 → mfl u k = gflt O (t.2 10) (t.1 3 4) k := fun k a b => by
    obtain ⟨c1, c2⟩ := h416 k a b
    have ft := (hP k a b).2
    unfold mfl gflt
    rw [← ft, m1, show t.1 400 10 = t.1 3 4 from r1 4 (by decide)]
    by_cases e0 : t.2 10 k = 0
    · have : O k = -100000 := by rw [← hO' k, e0]; exact gof_0 _ _
      rw [if_pos e0, if_pos this, if_pos e0]
    · rw [if_neg e0]
      by_cases e : O k = -100000
      · rw [if_pos e] at c1; rw [if_pos c1, if_pos e, if_neg e0]
      · rw [if_neg e] at c1 c2
        rw [if_neg (by omega), if_neg e, c2, hbef k a (by omega)]
        have : gfar (O k) (glst O k) = gabs (O k - glst O k) := by
          unfold gfar gabs
          split <;> split <;> omega
        rw [this]
  have hmm : ∀ d : Nat, (d : Int) ≤ t.1 (100 + t.1 (130 + r) 2) 2 → (mfr u d = -1 ∧ gfrs O d = -100000) ∨ ((0 ≤ mfr u d ∧ mfr u d < d) ∧ ¬ O (mfr u d) = -100000 ∧ gfrs O d = O (mfr u d) ∧ (0 ≤ mto u d ∧ mto u d < d) ∧ ¬ O (mto u d) = -100000 ∧ glst O d = O (mto u d)) := by
    intro d
    induction d with
    | zero => intro _; exact Or.inl ⟨rfl, rfl⟩
    | succ d ih =>
      intro hd
      obtain ⟨c1, c2⟩ := h416 d (by omega) (by omega)
      have s1 : mfr u ((d : Int) + 1) = if u.2 416 d = 0 then mfr u d else if mfr u d = -1 then (d : Int) else mfr u d := giter_s _ _ (by omega)
      have s2 : mto u ((d : Int) + 1) = if u.2 416 d = 0 then mto u d else (d : Int) := giter_s _ _ (by omega)
      have s3 : gfrs O ((d : Int) + 1) = if O d = -100000 then gfrs O d else if gfrs O d = -100000 then O d else gfrs O d := giter_s _ _ (by omega)
      have s4 : glst O ((d : Int) + 1) = if O d = -100000 then glst O d else O d := giter_s _ _ (by omega)
      rw [show ((d + 1 : Nat) : Int) = (d : Int) + 1 by omega]
      by_cases e : O d = -100000
      · rw [if_pos e] at c1 s3 s4
        rw [if_pos c1] at s1 s2
        rw [s1, s2, s3, s4]
        rcases ih (by omega) with z | ⟨z1, z2, z3, z4, z5, z6⟩
        · exact Or.inl z
        · exact Or.inr ⟨by omega, z2, z3, by omega, z5, z6⟩
      · rw [if_neg e] at c1 s3 s4
        have n416 : ¬ u.2 416 d = 0 := by omega
        rw [if_neg n416] at s1 s2
        rcases ih (by omega) with ⟨z1, z2⟩ | ⟨z1, z2, z3, z4, z5, z6⟩
        · rw [if_pos z1] at s1
          rw [if_pos z2] at s3
          rw [s1, s2, s3, s4]
          exact Or.inr ⟨by omega, e, rfl, by omega, e, rfl⟩
        · rw [if_neg (by omega)] at s1
          rw [if_neg (by rw [z3]; exact z2)] at s3
          rw [s1, s2, s3, s4]
          exact Or.inr ⟨by omega, z2, z3, by omega, e, rfl⟩
  refine ⟨by rw [hw, e45]; exact (hB 0 0 (by omega) (by omega) (by omega) d1.1).symm, fun k a b => ?_, ?_, ?_⟩
  · obtain ⟨f1, f2⟩ := hP k a b
    obtain ⟨n1, -⟩ := hno k a b
    obtain ⟨x1, x2, x3⟩ := hk k a b
    obtain ⟨c1, c2⟩ := h416 k a b
    refine ⟨f2.symm, ?_, ?_, ?_⟩
    · rw [x1, ← f2, n1, f1]
    · rw [x2, hO' k]
      by_cases e : O k = -100000
      · rw [if_pos e] at c1; rw [if_pos c1, e]
      · rw [if_neg e] at c1 c2; rw [if_neg (by omega), c2]
    · rw [x3]; exact hfl k a b
  · rw [e46]
    have := hmm (t.1 (100 + t.1 (130 + r) 2) 2).toNat (by omega)
    rw [Int.toNat_of_nonneg g1.1] at this
    unfold mstold gsunk
    rcases this with ⟨z1, z2⟩ | ⟨z1, z2, z3, z4, z5, z6⟩
    · rw [if_pos z1, if_pos z2]
    · obtain ⟨-, y1⟩ := h416 _ z1.1 z1.2
      obtain ⟨-, y2⟩ := h416 _ z4.1 z4.2
      rw [if_neg z2] at y1
      rw [if_neg z5] at y2
      rw [if_neg (by omega), if_neg (by rw [z3]; exact z2), y1, y2, z3, z6]
  · rw [e47]
    exact gsum_congr g1.1 (fun k a b => hfl k a b)
theorem sim_lay {s t u : gS} {v w r : Int} (h : iv s) (ht : gRg t) (hu : gRg u) (h7 : (((0 ≤ r ∧ r ≤ 9) ∧ ¬ s.1 (100 + s.1 (130 + r) 2) 2 = 0) → v = t.1 4 5 ∧ chas s t r) ∧ (¬ ((0 ≤ r ∧ r ≤ 9) ∧ ¬ s.1 (100 + s.1 (130 + r) 2) 2 = 0) → v = -1 ∧ t = s)) (h8 : ((0 ≤ r ∧ r ≤ 9) → mlays t u r w) ∧ (¬ (0 ≤ r ∧ r ≤ 9) → w = -1 ∧ u = t)) : v = w ∧ iv u := by
  by_cases z : (0 ≤ r ∧ r ≤ 9) ∧ ¬ s.1 (100 + s.1 (130 + r) 2) 2 = 0
  · obtain ⟨h7a, h7b⟩ := h7.1 z
    obtain ⟨it, hl⟩ := chas_iv h ht z.1 h7b
    have hp := (h.2.1.1.2.2 r z.1.1 (by omega)).2
    have hn : ¬ t.1 (100 + t.1 (130 + r) 2) 2 = 0 := by rw [h7b.1 (130 + r) 2 (by omega), h7b.1 (100 + s.1 (130 + r) 2) 2 (by omega)]; exact z.2
    have hm := h8.1 z.1
    exact ⟨by rw [h7a, (laid_same it z.1 hn hl hm).1], mlays_iv it hu hm⟩
  · obtain ⟨h7a, h7b⟩ := h7.2 z
    subst h7b
    by_cases z1 : 0 ≤ r ∧ r ≤ 9
    · have hm := h8.1 z1
      obtain ⟨q1, q2, q3⟩ := h.2.1.2.2.2.2 r z1.1 (by omega)
      have hp := (h.2.1.1.2.2 r z1.1 (by omega)).2
      have e := (h.2.1.2.2.2.1 (t.1 (130 + r) 2) hp.1 hp.2).1
      have z2 : t.1 (100 + t.1 (130 + r) 2) 2 = 0 := Classical.byContradiction (fun y => z ⟨z1, y⟩)
      obtain ⟨m1, m2⟩ := hm.1 (by rw [q1, e]; exact z2)
      subst m2
      exact ⟨by omega, h⟩
    · obtain ⟨m1, m2⟩ := h8.2 z1
      subst m2
      exact ⟨by omega, h⟩
theorem sim_laid {s t u : gS} {v w r k x : Int} (h : iv s) (ht : gRg t) (hu : gRg u) (h7 : (((0 ≤ r ∧ r ≤ 9) ∧ ¬ s.1 (100 + s.1 (130 + r) 2) 2 = 0) → chas s t r ∧ v = if 0 ≤ k ∧ k < t.1 4 4 then (if x = 0 then t.2 9 k else if x = 1 then t.2 10 k else if x = 2 then t.2 12 k else -2) else -2) ∧ (¬ ((0 ≤ r ∧ r ≤ 9) ∧ ¬ s.1 (100 + s.1 (130 + r) 2) 2 = 0) → v = -2 ∧ t = s))
    (h8 : (((0 ≤ r ∧ r ≤ 9) ∧ 0 ≤ k ∧ k < t.2 401 (t.2 404 r)) → (∃ y : Int, mlays t u r y) ∧ w = if x = 0 then (if u.2 413 k = 0 then -1 else u.2 414 k) else if x = 1 then u.2 413 k else if x = 2 then mfl u k else -2) ∧ (¬ ((0 ≤ r ∧ r ≤ 9) ∧ 0 ≤ k ∧ k < t.2 401 (t.2 404 r)) → w = -2 ∧ u = t)) : v = w ∧ iv u := by
  by_cases z : (0 ≤ r ∧ r ≤ 9) ∧ ¬ s.1 (100 + s.1 (130 + r) 2) 2 = 0
  · obtain ⟨h7b, h7a⟩ := h7.1 z
    obtain ⟨it, hl⟩ := chas_iv h ht z.1 h7b
    have hp := (h.2.1.1.2.2 r z.1.1 (by omega)).2
    have hn : ¬ t.1 (100 + t.1 (130 + r) 2) 2 = 0 := by rw [h7b.1 (130 + r) 2 (by omega), h7b.1 (100 + s.1 (130 + r) 2) 2 (by omega)]; exact z.2
    obtain ⟨q1, q2, q3⟩ := it.2.1.2.2.2.2 r z.1.1 (by omega)
    have hp' := (it.2.1.1.2.2 r z.1.1 (by omega)).2
    have e := (it.2.1.2.2.2.1 (t.1 (130 + r) 2) hp'.1 hp'.2).1
    have eN : t.2 401 (t.2 404 r) = t.1 4 4 := by rw [q1, e, hl.1]
    rw [eN] at h8
    by_cases zk : 0 ≤ k ∧ k < t.1 4 4
    · obtain ⟨⟨y, hm⟩, h8a⟩ := h8.1 ⟨z.1, zk⟩
      have hs := (laid_same it z.1 hn hl hm).2.1 k zk.1 (by rw [← hl.1]; exact zk.2)
      refine ⟨?_, mlays_iv it hu hm⟩
      rw [h7a, h8a, if_pos zk, hs.2.1, hs.1, hs.2.2.2]
    · obtain ⟨m1, m2⟩ := h8.2 (fun y => zk y.2)
      subst m2
      rw [if_neg zk] at h7a
      exact ⟨by omega, it⟩
  · obtain ⟨h7a, h7b⟩ := h7.2 z
    subst h7b
    have nz : ¬ ((0 ≤ r ∧ r ≤ 9) ∧ 0 ≤ k ∧ k < t.2 401 (t.2 404 r)) := fun y => by
      obtain ⟨q1, q2, q3⟩ := h.2.1.2.2.2.2 r y.1.1 (by omega)
      have hp := (h.2.1.1.2.2 r y.1.1 (by omega)).2
      have e := (h.2.1.2.2.2.1 (t.1 (130 + r) 2) hp.1 hp.2).1
      rw [q1, e] at y
      exact z ⟨y.1, by omega⟩
    obtain ⟨m1, m2⟩ := h8.2 nz
    subst m2
    exact ⟨by omega, h⟩
theorem sim_off {s t u : gS} {v w r k : Int} (h : iv s) (ht : gRg t) (hu : gRg u) (h7 : (((0 ≤ r ∧ r ≤ 9) ∧ ¬ s.1 (100 + s.1 (130 + r) 2) 2 = 0) → chas s t r ∧ v = if 0 ≤ k ∧ k < t.1 4 4 then t.2 11 k else -100000) ∧ (¬ ((0 ≤ r ∧ r ≤ 9) ∧ ¬ s.1 (100 + s.1 (130 + r) 2) 2 = 0) → v = -100000 ∧ t = s))
    (h8 : (((0 ≤ r ∧ r ≤ 9) ∧ 0 ≤ k ∧ k < t.2 401 (t.2 404 r)) → (∃ y : Int, mlays t u r y) ∧ w = if u.2 416 k = 0 then -100000 else u.2 415 k) ∧ (¬ ((0 ≤ r ∧ r ≤ 9) ∧ 0 ≤ k ∧ k < t.2 401 (t.2 404 r)) → w = -100000 ∧ u = t)) : v = w ∧ iv u := by
  by_cases z : (0 ≤ r ∧ r ≤ 9) ∧ ¬ s.1 (100 + s.1 (130 + r) 2) 2 = 0
  · obtain ⟨h7b, h7a⟩ := h7.1 z
    obtain ⟨it, hl⟩ := chas_iv h ht z.1 h7b
    have hp := (h.2.1.1.2.2 r z.1.1 (by omega)).2
    have hn : ¬ t.1 (100 + t.1 (130 + r) 2) 2 = 0 := by rw [h7b.1 (130 + r) 2 (by omega), h7b.1 (100 + s.1 (130 + r) 2) 2 (by omega)]; exact z.2
    obtain ⟨q1, q2, q3⟩ := it.2.1.2.2.2.2 r z.1.1 (by omega)
    have hp' := (it.2.1.1.2.2 r z.1.1 (by omega)).2
    have e := (it.2.1.2.2.2.1 (t.1 (130 + r) 2) hp'.1 hp'.2).1
    have eN : t.2 401 (t.2 404 r) = t.1 4 4 := by rw [q1, e, hl.1]
    rw [eN] at h8
    by_cases zk : 0 ≤ k ∧ k < t.1 4 4
    · obtain ⟨⟨y, hm⟩, h8a⟩ := h8.1 ⟨z.1, zk⟩
      have hs := (laid_same it z.1 hn hl hm).2.1 k zk.1 (by rw [← hl.1]; exact zk.2)
      refine ⟨?_, mlays_iv it hu hm⟩
      rw [h7a, h8a, if_pos zk, hs.2.2.1]
    · obtain ⟨m1, m2⟩ := h8.2 (fun y => zk y.2)
      subst m2
      rw [if_neg zk] at h7a
      exact ⟨by omega, it⟩
  · obtain ⟨h7a, h7b⟩ := h7.2 z
    subst h7b
    have nz : ¬ ((0 ≤ r ∧ r ≤ 9) ∧ 0 ≤ k ∧ k < t.2 401 (t.2 404 r)) := fun y => by
      obtain ⟨q1, q2, q3⟩ := h.2.1.2.2.2.2 r y.1.1 (by omega)
      have hp := (h.2.1.1.2.2 r y.1.1 (by omega)).2
      have e := (h.2.1.2.2.2.1 (t.1 (130 + r) 2) hp.1 hp.2).1
      rw [q1, e] at y
      exact z ⟨y.1, by omega⟩
    obtain ⟨m1, m2⟩ := h8.2 nz
    subst m2
    exact ⟨by omega, h⟩
theorem sim_told {s t u : gS} {v w r x : Int} (h : iv s) (ht : gRg t) (hu : gRg u) (h7 : ((((0 ≤ r ∧ r ≤ 9) ∧ ¬ s.1 (100 + s.1 (130 + r) 2) 2 = 0) ∧ (x = 0 ∨ x = 1)) → chas s t r ∧ v = if x = 0 then t.1 4 6 else t.1 4 7) ∧ (¬ (((0 ≤ r ∧ r ≤ 9) ∧ ¬ s.1 (100 + s.1 (130 + r) 2) 2 = 0) ∧ (x = 0 ∨ x = 1)) → v = -100000 ∧ t = s))
    (h8 : (((0 ≤ r ∧ r ≤ 9) ∧ (x = 0 ∨ x = 1) ∧ ¬ t.2 401 (t.2 404 r) = 0) → (∃ y : Int, mlays t u r y) ∧ w = if x = 1 then gsum (fun k => mfl u k) (t.2 401 (t.2 404 r)) else mstold u (t.2 401 (t.2 404 r))) ∧ (¬ ((0 ≤ r ∧ r ≤ 9) ∧ (x = 0 ∨ x = 1) ∧ ¬ t.2 401 (t.2 404 r) = 0) → w = -100000 ∧ u = t)) : v = w ∧ iv u := by
  by_cases z : ((0 ≤ r ∧ r ≤ 9) ∧ ¬ s.1 (100 + s.1 (130 + r) 2) 2 = 0) ∧ (x = 0 ∨ x = 1)
  · obtain ⟨h7b, h7a⟩ := h7.1 z
    obtain ⟨it, hl⟩ := chas_iv h ht z.1.1 h7b
    have hp := (h.2.1.1.2.2 r z.1.1.1 (by omega)).2
    have hn : ¬ t.1 (100 + t.1 (130 + r) 2) 2 = 0 := by rw [h7b.1 (130 + r) 2 (by omega), h7b.1 (100 + s.1 (130 + r) 2) 2 (by omega)]; exact z.1.2
    obtain ⟨q1, q2, q3⟩ := it.2.1.2.2.2.2 r z.1.1.1 (by omega)
    have hp' := (it.2.1.1.2.2 r z.1.1.1 (by omega)).2
    have e := (it.2.1.2.2.2.1 (t.1 (130 + r) 2) hp'.1 hp'.2).1
    have eN : t.2 401 (t.2 404 r) = t.1 (100 + t.1 (130 + r) 2) 2 := by rw [q1, e]
    rw [eN] at h8
    obtain ⟨⟨y, hm⟩, h8a⟩ := h8.1 ⟨z.1.1, z.2, hn⟩
    obtain ⟨-, -, s1, s2⟩ := laid_same it z.1.1 hn hl hm
    refine ⟨?_, mlays_iv it hu hm⟩
    rw [h7a, h8a, s1, s2]
    by_cases x0 : x = 0
    · rw [if_pos x0, if_neg (by omega)]
    · rw [if_neg x0, if_pos (by omega)]
  · obtain ⟨h7a, h7b⟩ := h7.2 z
    subst h7b
    have nz : ¬ ((0 ≤ r ∧ r ≤ 9) ∧ (x = 0 ∨ x = 1) ∧ ¬ t.2 401 (t.2 404 r) = 0) := fun y => by
      obtain ⟨q1, q2, q3⟩ := h.2.1.2.2.2.2 r y.1.1 (by omega)
      have hp := (h.2.1.1.2.2 r y.1.1 (by omega)).2
      have e := (h.2.1.2.2.2.1 (t.1 (130 + r) 2) hp.1 hp.2).1
      rw [q1, e] at y
      exact z ⟨⟨y.1, y.2.2⟩, y.2.1⟩
    obtain ⟨m1, m2⟩ := h8.2 nz
    subst m2
    exact ⟨by omega, h⟩

