/-! ===== notes, recordings, readings, rules of both ===== -/
theorem sim_note {s t u : gS} {v w p x b : Int} (h : iv s) (hu : gRg u) (h7 : if (0 ≤ p ∧ p ≤ 5) ∧ (0 ≤ x ∧ x ≤ 4800) ∧ (1 ≤ b ∧ b ≤ 8) ∧ s.1 (100 + p) 2 < 24 then v = s.1 (100 + p) 2 + 1 ∧ t = gNote (gpI s 4 8 (-1)) (100 + p) x b else v = -1 ∧ t = s) (h8 : if (0 ≤ p ∧ p ≤ 5) ∧ (0 ≤ x ∧ x ≤ 4800) ∧ (1 ≤ b ∧ b ≤ 8) ∧ t.2 401 p < 24 then w = t.2 401 p + 1 ∧ u = gpA (gpA (gpA t 402 ((24 * p) + t.2 401 p) x) 403 ((24 * p) + t.2 401 p) b) 401 p (t.2 401 p + 1) else w = -1 ∧ u = t) : v = w ∧ iv u := by
  by_cases z0 : 0 ≤ p ∧ p ≤ 5
  · obtain ⟨hr, ⟨hV, hCa, r1, r2, r3⟩, hJ, hR, hT⟩ := h
    have ep := (r2 p z0.1 (by omega)).1
    have hp := hV.2.1 p z0.1 (by omega)
    have et : t.2 401 p = s.1 (100 + p) 2 := by
      rw [← ep]
      split at h7
      · rw [h7.2]
        show (if (401 : Int) = 100 + p + 20 ∧ _ then _ else if (401 : Int) = 100 + p + 10 ∧ _ then _ else s.2 401 p) = _
        rw [if_neg (by omega), if_neg (by omega)]
      · rw [h7.2]
    rw [et] at h8
    by_cases z : (0 ≤ p ∧ p ≤ 5) ∧ (0 ≤ x ∧ x ≤ 4800) ∧ (1 ≤ b ∧ b ≤ 8) ∧ s.1 (100 + p) 2 < 24
    · rw [if_pos z] at h7 h8
      obtain ⟨h7a, h7b⟩ := h7
      obtain ⟨h8a, h8b⟩ := h8
      have n4 : (gpI s 4 8 (-1)).1 (100 + p) 2 = s.1 (100 + p) 2 := gpI_nk (by omega)
      have U1 : ∀ (k : Int) (j : Nat), u.1 k j = if k = 100 + p ∧ j = 2 then s.1 (100 + p) 2 + 1 else if k = 4 ∧ j = 8 then -1 else s.1 k j := fun k j => by
        rw [h8b]
        show t.1 k j = _
        rw [h7b]
        show (if k = 100 + p ∧ j = 2 then (gpI s 4 8 (-1)).1 (100 + p) 2 + 1 else _) = _
        rw [n4]
        rfl
      have U2 : ∀ (k i : Int), u.2 k i = if k = 401 ∧ i = p then s.1 (100 + p) 2 + 1 else if k = 403 ∧ i = 24 * p + s.1 (100 + p) 2 then b else if k = 402 ∧ i = 24 * p + s.1 (100 + p) 2 then x else if k = 100 + p + 20 ∧ i = s.1 (100 + p) 2 then b else if k = 100 + p + 10 ∧ i = s.1 (100 + p) 2 then x else s.2 k i := fun k i => by
        rw [h8b]
        show (if k = 401 ∧ i = p then _ else if k = 403 ∧ i = _ then b else if k = 402 ∧ i = _ then x else t.2 k i) = _
        rw [h7b]
        show (if k = 401 ∧ i = p then _ else if k = 403 ∧ i = _ then b else if k = 402 ∧ i = _ then x else (if k = 100 + p + 20 ∧ i = (gpI s 4 8 (-1)).1 (100 + p) 2 then b else if k = 100 + p + 10 ∧ i = (gpI s 4 8 (-1)).1 (100 + p) 2 then x else s.2 k i)) = _
        rw [n4]
      have cg : gchg (fun k j => (k = 100 + p ∧ j = 2) ∨ (k = 4 ∧ j = 8)) (fun k => k = 401 ∨ k = 402 ∨ k = 403 ∨ k = 100 + p + 10 ∨ k = 100 + p + 20) s u := ⟨fun k j hn => by rw [U1, if_neg (by omega), if_neg (by omega)], fun k hn => funext fun i => by rw [U2, if_neg (by omega), if_neg (by omega), if_neg (by omega), if_neg (by omega), if_neg (by omega)]⟩
      have f1 : u.1 (100 + p) 2 = s.1 (100 + p) 2 + 1 := by rw [U1, if_pos ⟨rfl, rfl⟩]
      have f2 : ∀ i, u.2 (100 + p + 10) i = if i = s.1 (100 + p) 2 then x else s.2 (100 + p + 10) i := fun i => by
        rw [U2, if_neg (by omega), if_neg (by omega), if_neg (by omega), if_neg (by omega)]
        by_cases e : i = s.1 (100 + p) 2
        · rw [if_pos ⟨rfl, e⟩, if_pos e]
        · rw [if_neg (fun y => e y.2), if_neg e]
      have f3 : ∀ i, u.2 (100 + p + 20) i = if i = s.1 (100 + p) 2 then b else s.2 (100 + p + 20) i := fun i => by
        rw [U2, if_neg (by omega), if_neg (by omega), if_neg (by omega)]
        by_cases e : i = s.1 (100 + p) 2
        · rw [if_pos ⟨rfl, e⟩, if_pos e]
        · rw [if_neg (fun y => e y.2), if_neg (by omega), if_neg e]
      have f401 : ∀ i, u.2 401 i = if i = p then s.1 (100 + p) 2 + 1 else s.2 401 i := fun i => by
        rw [U2]
        by_cases e : i = p
        · rw [if_pos ⟨rfl, e⟩, if_pos e]
        · rw [if_neg (fun y => e y.2), if_neg (by omega), if_neg (by omega), if_neg (by omega), if_neg (by omega), if_neg e]
      have f402 : ∀ i, u.2 402 i = if i = 24 * p + s.1 (100 + p) 2 then x else s.2 402 i := fun i => by
        rw [U2, if_neg (by omega), if_neg (by omega)]
        by_cases e : i = 24 * p + s.1 (100 + p) 2
        · rw [if_pos ⟨rfl, e⟩, if_pos e]
        · rw [if_neg (fun y => e y.2), if_neg (by omega), if_neg (by omega), if_neg e]
      have f403 : ∀ i, u.2 403 i = if i = 24 * p + s.1 (100 + p) 2 then b else s.2 403 i := fun i => by
        rw [U2, if_neg (by omega)]
        by_cases e : i = 24 * p + s.1 (100 + p) 2
        · rw [if_pos ⟨rfl, e⟩, if_pos e]
        · rw [if_neg (fun y => e y.2), if_neg (by omega), if_neg (by omega), if_neg (by omega), if_neg e]
      have e48 : u.1 4 8 = -1 := by rw [U1, if_neg (by omega), if_pos ⟨rfl, rfl⟩]
      refine ⟨by omega, hu, ⟨⟨?_, fun p' a c => ?_, fun r a c => ?_⟩, Or.inl e48, fun j hj => ?_, fun p' a c => ?_, fun r a c => ?_⟩, cg.J (fun k j => by unfold fJ; omega) (fun k => by unfold aJ; omega) hJ, cg.R (fun k j => by unfold fR; omega) (fun k => by unfold aR; omega) hR, cg.T (fun k j => by unfold fT; omega) (fun k => by unfold aT; omega) hT⟩
      · unfold gMs; rw [cg.1 3 0 (by omega), cg.1 3 1 (by omega), cg.1 3 2 (by omega), cg.1 3 3 (by omega), cg.1 3 4 (by omega)]; exact hV.1
      · by_cases e : p' = p
        · subst e
          refine ⟨by rw [f1]; have := hp.1; omega, fun i i0 i1 => ?_⟩
          rw [f1] at i1
          rw [f2, f3]
          by_cases ei : i = s.1 (100 + p') 2
          · rw [if_pos ei, if_pos ei]; exact ⟨z.2.1, z.2.2.1⟩
          · rw [if_neg ei, if_neg ei]; exact hp.2 i i0 (by omega)
        · unfold gPc; rw [cg.1 (100 + p') 2 (by omega), cg.2 (100 + p' + 10) (by omega), cg.2 (100 + p' + 20) (by omega)]; exact hV.2.1 p' a c
      · unfold gRd; rw [cg.1 (130 + r) 1 (by omega), cg.1 (130 + r) 2 (by omega), cg.2 (130 + r + 10) (by omega)]; exact hV.2.2 r a c
      · rw [cg.1 400 (6 + j) (by omega), cg.1 3 j (by omega)]; exact r1 j hj
      · by_cases e : p' = p
        · subst e
          refine ⟨by rw [f401, if_pos rfl, f1], fun k k0 k1 => ?_⟩
          rw [f1] at k1
          rw [f402, f403, f2, f3]
          by_cases ek : k = s.1 (100 + p') 2
          · rw [if_pos (by omega), if_pos ek, if_pos (by omega), if_pos ek]; exact ⟨rfl, rfl⟩
          · rw [if_neg (by omega), if_neg ek, if_neg (by omega), if_neg ek]; exact (r2 p' a c).2 k k0 (by omega)
        · rw [f401, if_neg e, cg.1 (100 + p') 2 (by omega), cg.2 (100 + p' + 10) (by omega), cg.2 (100 + p' + 20) (by omega)]
          refine ⟨(r2 p' a c).1, fun k k0 k1 => ?_⟩
          have hk := (hV.2.1 p' a c).1
          have hn := hp.1
          rw [f402, f403, if_neg (by omega), if_neg (by omega)]
          exact (r2 p' a c).2 k k0 k1
      · rw [cg.1 (130 + r) 1 (by omega), cg.1 (130 + r) 2 (by omega), cg.2 404 (by omega), cg.2 405 (by omega), cg.2 406 (by omega), cg.2 (130 + r + 10) (by omega)]; exact r3 r a c
    · rw [if_neg z] at h7 h8
      obtain ⟨h7a, h7b⟩ := h7
      obtain ⟨h8a, h8b⟩ := h8
      subst h7b
      subst h8b
      exact ⟨by omega, hr, ⟨hV, hCa, r1, r2, r3⟩, hJ, hR, hT⟩
  · rw [if_neg (fun y => z0 y.1)] at h7 h8
    obtain ⟨h7a, h7b⟩ := h7
    obtain ⟨h8a, h8b⟩ := h8
    subst h7b
    subst h8b
    exact ⟨by omega, h⟩
theorem sim_record {s t u : gS} {v w r p : Int} (h : iv s) (hu : gRg u) (h7 : if (0 ≤ r ∧ r ≤ 9) ∧ (0 ≤ p ∧ p ≤ 5) then v = s.1 (130 + r) 1 ∧ t = gpI (gpI (gpI s 4 8 (-1)) (130 + r) 1 0) (130 + r) 2 p else v = -1 ∧ t = s) (h8 : if (0 ≤ r ∧ r ≤ 9) ∧ (0 ≤ p ∧ p ≤ 5) then w = t.2 405 r ∧ u = gpA (gpA t 404 r p) 405 r 0 else w = -1 ∧ u = t) : v = w ∧ iv u := by
  by_cases z : (0 ≤ r ∧ r ≤ 9) ∧ (0 ≤ p ∧ p ≤ 5)
  · rw [if_pos z] at h7 h8
    obtain ⟨hr, ⟨hV, hCa, r1, r2, r3⟩, hJ, hR, hT⟩ := h
    obtain ⟨h7a, h7b⟩ := h7
    obtain ⟨h8a, h8b⟩ := h8
    have e5 : t.2 405 r = s.1 (130 + r) 1 := by rw [← (r3 r z.1.1 (by omega)).2.1, h7b]; rfl
    have U1 : ∀ (k : Int) (j : Nat), u.1 k j = if k = 130 + r ∧ j = 2 then p else if k = 130 + r ∧ j = 1 then 0 else if k = 4 ∧ j = 8 then -1 else s.1 k j := fun k j => by
      rw [h8b]; show t.1 k j = _; rw [h7b]; rfl
    have U2 : ∀ (k i : Int), u.2 k i = if k = 405 ∧ i = r then 0 else if k = 404 ∧ i = r then p else s.2 k i := fun k i => by
      rw [h8b, h7b]; rfl
    have cg : gchg (fun k j => (k = 130 + r ∧ (j = 1 ∨ j = 2)) ∨ (k = 4 ∧ j = 8)) (fun k => k = 404 ∨ k = 405) s u := ⟨fun k j hn => by rw [U1, if_neg (by omega), if_neg (by omega), if_neg (by omega)], fun k hn => funext fun i => by rw [U2, if_neg (by omega), if_neg (by omega)]⟩
    have f1 : u.1 (130 + r) 1 = 0 := by rw [U1, if_neg (by omega), if_pos ⟨rfl, rfl⟩]
    have f2 : u.1 (130 + r) 2 = p := by rw [U1, if_pos ⟨rfl, rfl⟩]
    have f4 : ∀ i, u.2 404 i = if i = r then p else s.2 404 i := fun i => by
      rw [U2, if_neg (by omega)]
      by_cases e : i = r
      · rw [if_pos ⟨rfl, e⟩, if_pos e]
      · rw [if_neg (fun y => e y.2), if_neg e]
    have f5 : ∀ i, u.2 405 i = if i = r then 0 else s.2 405 i := fun i => by
      rw [U2]
      by_cases e : i = r
      · rw [if_pos ⟨rfl, e⟩, if_pos e]
      · rw [if_neg (fun y => e y.2), if_neg (by omega), if_neg e]
    have e48 : u.1 4 8 = -1 := by rw [U1, if_neg (by omega), if_neg (by omega), if_pos ⟨rfl, rfl⟩]
    refine ⟨by omega, hu, ⟨⟨?_, fun p' a c => ?_, fun r' a c => ?_⟩, Or.inl e48, fun j hj => ?_, fun p' a c => ?_, fun r' a c => ?_⟩, cg.J (fun k j => by unfold fJ; omega) (fun k => by unfold aJ; omega) hJ, cg.R (fun k j => by unfold fR; omega) (fun k => by unfold aR; omega) hR, cg.T (fun k j => by unfold fT; omega) (fun k => by unfold aT; omega) hT⟩
    · unfold gMs; rw [cg.1 3 0 (by omega), cg.1 3 1 (by omega), cg.1 3 2 (by omega), cg.1 3 3 (by omega), cg.1 3 4 (by omega)]; exact hV.1
    · unfold gPc; rw [cg.1 (100 + p') 2 (by omega), cg.2 (100 + p' + 10) (by omega), cg.2 (100 + p' + 20) (by omega)]; exact hV.2.1 p' a c
    · by_cases e : r' = r
      · subst e
        unfold gRd
        rw [f1, f2]
        exact ⟨⟨by omega, fun i i0 i1 => by omega⟩, by omega⟩
      · unfold gRd; rw [cg.1 (130 + r') 1 (by omega), cg.1 (130 + r') 2 (by omega), cg.2 (130 + r' + 10) (by omega)]; exact hV.2.2 r' a c
    · rw [cg.1 400 (6 + j) (by omega), cg.1 3 j (by omega)]; exact r1 j hj
    · rw [cg.1 (100 + p') 2 (by omega), cg.2 401 (by omega), cg.2 402 (by omega), cg.2 403 (by omega), cg.2 (100 + p' + 10) (by omega), cg.2 (100 + p' + 20) (by omega)]; exact r2 p' a c
    · rw [f4, f5]
      by_cases e : r' = r
      · subst e
        rw [if_pos rfl, if_pos rfl, f1, f2]
        exact ⟨rfl, rfl, fun i i0 i1 => by omega⟩
      · rw [if_neg e, if_neg e, cg.1 (130 + r') 1 (by omega), cg.1 (130 + r') 2 (by omega), cg.2 406 (by omega), cg.2 (130 + r' + 10) (by omega)]; exact r3 r' a c
  · rw [if_neg z] at h7 h8
    obtain ⟨h7a, h7b⟩ := h7
    obtain ⟨h8a, h8b⟩ := h8
    subst h7b
    subst h8b
    exact ⟨by omega, h⟩
theorem gfill_at {s : gS} {k i x : Int} {n : Int} (h0 : 0 ≤ n) : (gfill s k i x n).1 = s.1 ∧ ∀ k' j : Int, (gfill s k i x n).2 k' j = if k' = k ∧ i ≤ j ∧ j < i + n then x else s.2 k' j :=
  giter_ind (f := fun q t => gpA t k (i + q) x) (a := s) (N := n) (fun m t => t.1 = s.1 ∧ ∀ k' j : Int, t.2 k' j = if k' = k ∧ i ≤ j ∧ j < i + m then x else s.2 k' j) ⟨rfl, fun k' j => by rw [if_neg (by omega)]⟩ (fun q t q0 q1 ⟨e1, e2⟩ => ⟨e1, fun k' j => by
    show (if k' = k ∧ j = i + q then x else t.2 k' j) = _
    rw [e2]
    by_cases c : k' = k ∧ j = i + q
    · rw [if_pos c, if_pos (by omega)]
    · rw [if_neg c]
      by_cases c2 : k' = k ∧ i ≤ j ∧ j < i + q
      · rw [if_pos c2, if_pos (by omega)]
      · rw [if_neg c2, if_neg (by omega)]⟩) n h0 (Int.le_refl n)
theorem sim_read {s t u : gS} {v w r x n : Int} (h : iv s) (hu : gRg u) (h7 : if (0 ≤ r ∧ r ≤ 9) ∧ (1 ≤ n ∧ n ≤ 60) ∧ (-1 ≤ x ∧ x ≤ 4800) ∧ s.1 (130 + r) 1 + n ≤ 120 then v = s.1 (130 + r) 1 + n ∧ t = gpI (gfill (gpI s 4 8 (-1)) ((130 + r) + 10) (s.1 (130 + r) 1) x n) (130 + r) 1 (s.1 (130 + r) 1 + n) else v = -1 ∧ t = s) (h8 : if (0 ≤ r ∧ r ≤ 9) ∧ (1 ≤ n ∧ n ≤ 60) ∧ (-1 ≤ x ∧ x ≤ 4800) ∧ t.2 405 r + n ≤ 120 then w = t.2 405 r + n ∧ u = gpA (gfill t 406 ((120 * r) + t.2 405 r) x n) 405 r (t.2 405 r + n) else w = -1 ∧ u = t) : v = w ∧ iv u := by
  by_cases z0 : (0 ≤ r ∧ r ≤ 9) ∧ (1 ≤ n ∧ n ≤ 60)
  · obtain ⟨hr, ⟨hV, hCa, r1, r2, r3⟩, hJ, hR, hT⟩ := h
    obtain ⟨⟨d1, d2⟩, d3⟩ := hV.2.2 r z0.1.1 (by omega)
    have e5 : t.2 405 r = s.1 (130 + r) 1 := by
      rw [← (r3 r z0.1.1 (by omega)).2.1]
      split at h7
      · rw [h7.2]
        show (gfill _ _ _ _ _).2 405 r = _
        rw [(gfill_at (by omega)).2, if_neg (by omega)]; rfl
      · rw [h7.2]
    rw [e5] at h8
    by_cases z : (0 ≤ r ∧ r ≤ 9) ∧ (1 ≤ n ∧ n ≤ 60) ∧ (-1 ≤ x ∧ x ≤ 4800) ∧ s.1 (130 + r) 1 + n ≤ 120
    · rw [if_pos z] at h7 h8
      obtain ⟨h7a, h7b⟩ := h7
      obtain ⟨h8a, h8b⟩ := h8
      have T1 : ∀ (k : Int) (j : Nat), t.1 k j = if k = 130 + r ∧ j = 1 then s.1 (130 + r) 1 + n else if k = 4 ∧ j = 8 then -1 else s.1 k j := fun k j => by
        rw [h7b]
        show (if k = 130 + r ∧ j = 1 then _ else (gfill _ _ _ _ _).1 k j) = _
        rw [(gfill_at (by omega)).1]; rfl
      have T2 : ∀ (k i : Int), t.2 k i = if k = 130 + r + 10 ∧ s.1 (130 + r) 1 ≤ i ∧ i < s.1 (130 + r) 1 + n then x else s.2 k i := fun k i => by
        rw [h7b]
        show (gfill _ _ _ _ _).2 k i = _
        rw [(gfill_at (by omega)).2]; rfl
      have U1 : ∀ (k : Int) (j : Nat), u.1 k j = if k = 130 + r ∧ j = 1 then s.1 (130 + r) 1 + n else if k = 4 ∧ j = 8 then -1 else s.1 k j := fun k j => by
        rw [h8b]
        show (gfill _ _ _ _ _).1 k j = _
        rw [(gfill_at (by omega)).1, T1]
      have U2 : ∀ (k i : Int), u.2 k i = if k = 405 ∧ i = r then s.1 (130 + r) 1 + n else if k = 406 ∧ 120 * r + s.1 (130 + r) 1 ≤ i ∧ i < 120 * r + s.1 (130 + r) 1 + n then x else t.2 k i := fun k i => by
        rw [h8b]
        show (if k = 405 ∧ i = r then _ else (gfill _ _ _ _ _).2 k i) = _
        rw [(gfill_at (by omega)).2]
      have cg : gchg (fun k j => (k = 130 + r ∧ j = 1) ∨ (k = 4 ∧ j = 8)) (fun k => k = 405 ∨ k = 406 ∨ k = 130 + r + 10) s u := ⟨fun k j hn => by rw [U1, if_neg (by omega), if_neg (by omega)], fun k hn => funext fun i => by rw [U2, if_neg (by omega), if_neg (by omega), T2, if_neg (by omega)]⟩
      have f1 : u.1 (130 + r) 1 = s.1 (130 + r) 1 + n := by rw [U1, if_pos ⟨rfl, rfl⟩]
      have f10 : ∀ i, u.2 (130 + r + 10) i = if s.1 (130 + r) 1 ≤ i ∧ i < s.1 (130 + r) 1 + n then x else s.2 (130 + r + 10) i := fun i => by
        rw [U2, if_neg (by omega), if_neg (by omega), T2]
        by_cases e : s.1 (130 + r) 1 ≤ i ∧ i < s.1 (130 + r) 1 + n
        · rw [if_pos ⟨rfl, e⟩, if_pos e]
        · rw [if_neg (fun y => e y.2), if_neg e]
      have f5 : ∀ i, u.2 405 i = if i = r then s.1 (130 + r) 1 + n else s.2 405 i := fun i => by
        rw [U2]
        by_cases e : i = r
        · rw [if_pos ⟨rfl, e⟩, if_pos e]
        · rw [if_neg (fun y => e y.2), if_neg (by omega), T2, if_neg (by omega), if_neg e]
      have f6 : ∀ i, u.2 406 i = if 120 * r + s.1 (130 + r) 1 ≤ i ∧ i < 120 * r + s.1 (130 + r) 1 + n then x else s.2 406 i := fun i => by
        rw [U2, if_neg (by omega)]
        by_cases e : 120 * r + s.1 (130 + r) 1 ≤ i ∧ i < 120 * r + s.1 (130 + r) 1 + n
        · rw [if_pos ⟨rfl, e⟩, if_pos e]
        · rw [if_neg (fun y => e y.2), T2, if_neg (by omega), if_neg e]
      have e48 : u.1 4 8 = -1 := by rw [U1, if_neg (by omega), if_pos ⟨rfl, rfl⟩]
      refine ⟨by omega, hu, ⟨⟨?_, fun p' a c => ?_, fun r' a c => ?_⟩, Or.inl e48, fun j hj => ?_, fun p' a c => ?_, fun r' a c => ?_⟩, cg.J (fun k j => by unfold fJ; omega) (fun k => by unfold aJ; omega) hJ, cg.R (fun k j => by unfold fR; omega) (fun k => by unfold aR; omega) hR, cg.T (fun k j => by unfold fT; omega) (fun k => by unfold aT; omega) hT⟩
      · unfold gMs; rw [cg.1 3 0 (by omega), cg.1 3 1 (by omega), cg.1 3 2 (by omega), cg.1 3 3 (by omega), cg.1 3 4 (by omega)]; exact hV.1
      · unfold gPc; rw [cg.1 (100 + p') 2 (by omega), cg.2 (100 + p' + 10) (by omega), cg.2 (100 + p' + 20) (by omega)]; exact hV.2.1 p' a c
      · by_cases e : r' = r
        · subst e
          unfold gRd
          rw [f1, cg.1 (130 + r') 2 (by omega)]
          refine ⟨⟨by omega, fun i i0 i1 => ?_⟩, d3⟩
          rw [f10]
          by_cases ei : s.1 (130 + r') 1 ≤ i ∧ i < s.1 (130 + r') 1 + n
          · rw [if_pos ei]; exact z.2.2.1
          · rw [if_neg ei]; exact d2 i i0 (by omega)
        · unfold gRd; rw [cg.1 (130 + r') 1 (by omega), cg.1 (130 + r') 2 (by omega), cg.2 (130 + r' + 10) (by omega)]; exact hV.2.2 r' a c
      · rw [cg.1 400 (6 + j) (by omega), cg.1 3 j (by omega)]; exact r1 j hj
      · rw [cg.1 (100 + p') 2 (by omega), cg.2 401 (by omega), cg.2 402 (by omega), cg.2 403 (by omega), cg.2 (100 + p' + 10) (by omega), cg.2 (100 + p' + 20) (by omega)]; exact r2 p' a c
      · rw [f5, cg.2 404 (by omega), cg.1 (130 + r') 2 (by omega)]
        by_cases e : r' = r
        · subst e
          rw [if_pos rfl, f1]
          refine ⟨(r3 r' a c).1, rfl, fun i i0 i1 => ?_⟩
          rw [f6, f10]
          by_cases ei : s.1 (130 + r') 1 ≤ i ∧ i < s.1 (130 + r') 1 + n
          · rw [if_pos (by omega), if_pos ei]
          · rw [if_neg (by omega), if_neg ei]; exact (r3 r' a c).2.2 i i0 (by omega)
        · rw [if_neg e, cg.1 (130 + r') 1 (by omega), cg.2 (130 + r' + 10) (by omega)]
          refine ⟨(r3 r' a c).1, (r3 r' a c).2.1, fun i i0 i1 => ?_⟩
          have hb := (hV.2.2 r' a c).1.1
          rw [f6, if_neg (by omega)]
          exact (r3 r' a c).2.2 i i0 i1
    · rw [if_neg z] at h7 h8
      obtain ⟨h7a, h7b⟩ := h7
      obtain ⟨h8a, h8b⟩ := h8
      subst h7b
      subst h8b
      exact ⟨by omega, hr, ⟨hV, hCa, r1, r2, r3⟩, hJ, hR, hT⟩
  · rw [if_neg (fun y => z0 ⟨y.1, y.2.1⟩)] at h7 h8
    obtain ⟨h7a, h7b⟩ := h7
    obtain ⟨h8a, h8b⟩ := h8
    subst h7b
    subst h8b
    exact ⟨by omega, h⟩
theorem sim_rules {s t u : gS} {v w a b c d e : Int} (h : iv s) (hu : gRg u) (h7 : if (1 ≤ a ∧ a ≤ 8) ∧ (0 ≤ b ∧ b ≤ 1000) ∧ (0 ≤ c ∧ c ≤ 1000) ∧ (0 ≤ d ∧ d ≤ 10000) ∧ (0 ≤ e ∧ e ≤ 1000) then v = 1 ∧ t = gpI (gpI (gpI (gpI (gpI (gpI s 4 8 (-1)) 3 0 a) 3 1 b) 3 2 c) 3 3 d) 3 4 e else v = 0 ∧ t = s) (h8 : if (1 ≤ a ∧ a ≤ 8) ∧ (0 ≤ b ∧ b ≤ 1000) ∧ (0 ≤ c ∧ c ≤ 1000) ∧ (0 ≤ d ∧ d ≤ 10000) ∧ (0 ≤ e ∧ e ≤ 1000) then w = 1 ∧ u = gpI (gpI (gpI (gpI (gpI t 400 6 a) 400 7 b) 400 8 c) 400 9 d) 400 10 e else w = 0 ∧ u = t) : v = w ∧ iv u := by
  by_cases z : (1 ≤ a ∧ a ≤ 8) ∧ (0 ≤ b ∧ b ≤ 1000) ∧ (0 ≤ c ∧ c ≤ 1000) ∧ (0 ≤ d ∧ d ≤ 10000) ∧ (0 ≤ e ∧ e ≤ 1000)
  · rw [if_pos z] at h7 h8
    obtain ⟨hr, ⟨hV, hCa, r1, r2, r3⟩, hJ, hR, hT⟩ := h
    obtain ⟨h7a, h7b⟩ := h7
    obtain ⟨h8a, h8b⟩ := h8
    have cg : gchg (fun k j => k = 3 ∨ (k = 4 ∧ j = 8) ∨ (k = 400 ∧ 6 ≤ j ∧ j ≤ 10)) (fun _ => False) s u := by
      rw [h8b, h7b]
      exact ((((((((((((gchg.rf _ _ s).pI _ (Or.inr (Or.inl ⟨rfl, rfl⟩))).pI _ (Or.inl rfl)).pI _ (Or.inl rfl)).pI _ (Or.inl rfl)).pI _ (Or.inl rfl)).pI _ (Or.inl rfl)).pI _ (Or.inr (Or.inr ⟨rfl, by omega, by omega⟩))).pI _ (Or.inr (Or.inr ⟨rfl, by omega, by omega⟩))).pI _ (Or.inr (Or.inr ⟨rfl, by omega, by omega⟩))).pI _ (Or.inr (Or.inr ⟨rfl, by omega, by omega⟩))).pI _ (Or.inr (Or.inr ⟨rfl, by omega, by omega⟩)))
    have k0 : u.1 3 0 = a := by rw [h8b, h7b]; rfl
    have k1 : u.1 3 1 = b := by rw [h8b, h7b]; rfl
    have k2 : u.1 3 2 = c := by rw [h8b, h7b]; rfl
    have k3 : u.1 3 3 = d := by rw [h8b, h7b]; rfl
    have k4 : u.1 3 4 = e := by rw [h8b, h7b]; rfl
    have l0 : u.1 400 6 = a := by rw [h8b]; rfl
    have l1 : u.1 400 7 = b := by rw [h8b]; rfl
    have l2 : u.1 400 8 = c := by rw [h8b]; rfl
    have l3 : u.1 400 9 = d := by rw [h8b]; rfl
    have l4 : u.1 400 10 = e := by rw [h8b]; rfl
    have e48 : u.1 4 8 = -1 := by rw [h8b, h7b]; rfl
    refine ⟨by omega, hu, ⟨⟨?_, fun p' x y => ?_, fun r' x y => ?_⟩, Or.inl e48, fun j hj => ?_, fun p' x y => ?_, fun r' x y => ?_⟩, cg.J (fun k j => by unfold fJ; omega) (fun k => by simp) hJ, cg.R (fun k j => by unfold fR; omega) (fun k => by simp) hR, cg.T (fun k j => by unfold fT; omega) (fun k => by simp) hT⟩
    · unfold gMs; rw [k0, k1, k2, k3, k4]; exact z
    · unfold gPc; rw [cg.1 (100 + p') 2 (by omega), cg.2 (100 + p' + 10) (by simp), cg.2 (100 + p' + 20) (by simp)]; exact hV.2.1 p' x y
    · unfold gRd; rw [cg.1 (130 + r') 1 (by omega), cg.1 (130 + r') 2 (by omega), cg.2 (130 + r' + 10) (by simp)]; exact hV.2.2 r' x y
    · rcases (show j = 0 ∨ j = 1 ∨ j = 2 ∨ j = 3 ∨ j = 4 by omega) with g | g | g | g | g <;> subst g
      · exact l0.trans k0.symm
      · exact l1.trans k1.symm
      · exact l2.trans k2.symm
      · exact l3.trans k3.symm
      · exact l4.trans k4.symm
    · rw [cg.1 (100 + p') 2 (by omega), cg.2 401 (by simp), cg.2 402 (by simp), cg.2 403 (by simp), cg.2 (100 + p' + 10) (by simp), cg.2 (100 + p' + 20) (by simp)]; exact r2 p' x y
    · rw [cg.1 (130 + r') 1 (by omega), cg.1 (130 + r') 2 (by omega), cg.2 404 (by simp), cg.2 405 (by simp), cg.2 406 (by simp), cg.2 (130 + r' + 10) (by simp)]; exact r3 r' x y
  · rw [if_neg z] at h7 h8
    obtain ⟨h7a, h7b⟩ := h7
    obtain ⟨h8a, h8b⟩ := h8
    subst h7b
    subst h8b
    exact ⟨by omega, h⟩
theorem iv_0 : iv gs0 := by
  have z2 : ∀ k i : Int, gs0.2 k i = 0 := fun _ _ => rfl
  have z1 : ∀ (k : Int) (j : Nat), ¬ k = 3 → ¬ k = 4 → ¬ k = 7 → ¬ k = 400 → gs0.1 k j = 0 := fun k j a b c d => by
    unfold gs0; dsimp only; rw [if_neg a, if_neg b, if_neg c, if_neg d]
  have m0 : gs0.1 3 0 = 2 := rfl
  have m1 : gs0.1 3 1 = 20 := rfl
  have m2 : gs0.1 3 2 = 30 := rfl
  have m3 : gs0.1 3 3 = 400 := rfl
  have m4 : gs0.1 3 4 = 40 := rfl
  have p2 : ∀ p : Int, 0 ≤ p → p < 6 → gs0.1 (100 + p) 2 = 0 := fun p a b => z1 _ _ (by omega) (by omega) (by omega) (by omega)
  have q1 : ∀ r : Int, 0 ≤ r → r < 10 → ∀ j, gs0.1 (130 + r) j = 0 := fun r a b j => z1 _ _ (by omega) (by omega) (by omega) (by omega)
  refine ⟨⟨fun k j => ?_, fun k i => by rw [z2]; exact rng_0⟩, ⟨⟨⟨by omega, by omega, by omega, by omega, by omega⟩, fun p a b => ?_, fun r a b => ?_⟩, Or.inl rfl, fun j hj => ?_, fun p a b => ?_, fun r a b => ?_⟩, ⟨by rw [z1 5 0 (by decide) (by decide) (by decide) (by decide)]; omega, rfl, fun j a b => ?_, fun j c a b a' b' => ?_⟩, ⟨by rw [z1 6 4 (by decide) (by decide) (by decide) (by decide)]; omega, rfl, fun i a b => ⟨rfl, rfl, rfl, rfl⟩⟩, ⟨⟨by rw [show gs0.1 7 1 = 0 from rfl]; omega, by rw [show gs0.1 7 2 = 2 from rfl]; omega⟩, by rw [show gs0.1 7 3 = 0 from rfl]; omega, ⟨rfl, rfl, rfl⟩, fun i a b => ⟨rfl, by rw [z2]; omega, by rw [z2]; omega⟩, fun i a b => rfl⟩⟩
  · unfold gs0
    dsimp only
    have l1 : ∀ (l : List Int), (∀ x ∈ l, rng x) → ∀ j, rng (l.getD j 0) := fun l h j => by
      rw [List.getD_eq_getElem?_getD]
      cases e : l[j]? with
      | none => exact rng_0
      | some x => exact h x (List.mem_of_getElem? e)
    have rr : ∀ n : Int, -2147483648 ≤ n → n ≤ 2147483647 → rng n := fun n a b => ⟨a, b⟩
    split
    · exact l1 _ (fun x hx => by
        have : ∀ x ∈ ([2, 20, 30, 400, 40] : List Int), -2147483648 ≤ x ∧ x ≤ 2147483647 := by decide
        exact this x hx) j
    · split
      · split
        · exact rr _ (by omega) (by omega)
        · exact rng_0
      · split
        · split
          · exact rr _ (by omega) (by omega)
          · exact rng_0
        · split
          · exact l1 _ (fun x hx => by
              have : ∀ x ∈ ([0, 0, 0, 0, 0, 0, 2, 20, 30, 400, 40, 0, 0, 0, 0, 0, 0, 0, 0, 0, 0, 0, 0, 0, 0, 0, 0, 0, 2] : List Int), -2147483648 ≤ x ∧ x ≤ 2147483647 := by decide
              exact this x hx) j
          · exact rng_0
  · unfold gPc; rw [p2 p a b]; exact ⟨by omega, fun i i0 i1 => by omega⟩
  · unfold gRd; rw [q1 r a b, q1 r a b]; exact ⟨⟨by omega, fun i i0 i1 => by omega⟩, by omega⟩
  · rcases (show j = 0 ∨ j = 1 ∨ j = 2 ∨ j = 3 ∨ j = 4 by omega) with g | g | g | g | g <;> subst g <;> rfl
  · rw [p2 p a b]; exact ⟨rfl, fun k k0 k1 => by omega⟩
  · rw [q1 r a b, q1 r a b]; exact ⟨rfl, rfl, fun k k0 k1 => by omega⟩
  · rw [z2, z2, z2]; exact ⟨rfl, by omega⟩
  · rw [z2, z2, z2]
    exact ⟨rfl, by omega, fun y => by rw [gbit_0 a' (by omega)] at y; omega⟩

