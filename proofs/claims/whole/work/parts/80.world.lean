/-! ===== the world behind the two constructors ===== -/
def gofT : List (Int × Nat) := [(0, 0), (1, 1), (2, 20), (3, 41), (4, 42), (5, 76), (6, 88), (7, 93), (8, 99), (9, 43), (10, 44), (11, 45), (12, 46), (13, 47), (14, 73), (15, 74), (16, 75), (17, 77), (18, 78), (19, 89), (20, 90), (21, 91), (22, 92), (23, 94), (24, 95), (25, 96), (26, 97), (27, 98), (400, 100), (401, 101), (402, 102), (403, 103), (404, 104), (405, 105), (406, 106), (412, 107), (413, 108), (414, 109), (415, 110), (416, 111), (418, 112), (419, 113), (420, 114), (421, 115), (423, 116), (424, 117), (425, 118), (426, 119), (428, 120), (431, 121), (432, 122), (433, 123), (434, 124)]
def gof1 (k : Int) : Nat :=
  if 100 ≤ k ∧ k < 106 then 2 + 3 * (k - 100).toNat else if 110 ≤ k ∧ k < 116 then 3 + 3 * (k - 110).toNat else if 120 ≤ k ∧ k < 126 then 4 + 3 * (k - 120).toNat
  else if 130 ≤ k ∧ k < 140 then 21 + 2 * (k - 130).toNat else if 140 ≤ k ∧ k < 150 then 22 + 2 * (k - 140).toNat else if 200 ≤ k ∧ k < 225 then 48 + (k - 200).toNat else if 300 ≤ k ∧ k < 309 then 79 + (k - 300).toNat
  else (List.lookup k gofT).getD 0
def gkyT : List (Nat × Int) := [(0, 0), (1, 1), (20, 2), (41, 3), (42, 4), (76, 5), (88, 6), (93, 7), (99, 8), (43, 9), (44, 10), (45, 11), (46, 12), (47, 13), (73, 14), (74, 15), (75, 16), (77, 17), (78, 18), (89, 19), (90, 20), (91, 21), (92, 22), (94, 23), (95, 24), (96, 25), (97, 26), (98, 27), (100, 400), (101, 401), (102, 402), (103, 403), (104, 404), (105, 405), (106, 406), (107, 412), (108, 413), (109, 414), (110, 415), (111, 416), (112, 418), (113, 419), (114, 420), (115, 421), (116, 423), (117, 424), (118, 425), (119, 426), (120, 428), (121, 431), (122, 432), (123, 433), (124, 434)]
def gky (n : Nat) : Int :=
  if 2 ≤ n ∧ n < 20 then (if (n - 2) % 3 = 0 then 100 + ((n - 2) / 3 : Nat) else if (n - 2) % 3 = 1 then 110 + ((n - 2) / 3 : Nat) else 120 + ((n - 2) / 3 : Nat))
  else if 21 ≤ n ∧ n < 41 then (if (n - 21) % 2 = 0 then 130 + ((n - 21) / 2 : Nat) else 140 + ((n - 21) / 2 : Nat))
  else if 48 ≤ n ∧ n < 73 then 200 + (n - 48 : Nat) else if 79 ≤ n ∧ n < 88 then 300 + (n - 79 : Nat) else (List.lookup n gkyT).getD 0
def gad (b : Nat) (k : Int) : Nat := b + gof1 k
def gs0 : gS := (fun k j => if k = 3 then [2, 20, 30, 400, 40].getD j 0 else if k = 4 then (if j = 8 then -1 else 0) else if k = 7 then (if j = 2 then 2 else 0) else if k = 400 then [0, 0, 0, 0, 0, 0, 2, 20, 30, 400, 40, 0, 0, 0, 0, 0, 0, 0, 0, 0, 0, 0, 0, 0, 0, 0, 0, 0, 2].getD j 0 else 0, fun _ _ => 0)
def gEall (G : gG) (b : Nat) : Nat → va_E := fun i => if i = 0 then .inr (7, gFX7 (b + 1)) else if i < 100 then gEX7 G (b + 1) (i - 1) else if i = 100 then .inr (8, gFX8 (b + 101)) else gEX8 G (b + 101) (i - 101)
theorem look_mem {k : Int} {sh : gSh} : ∀ l : List (Int × gSh), List.lookup k l = some sh → (k, sh) ∈ l
  | [] => fun h => by cases h
  | (k', sh') :: r => fun h => by
    rw [List.lookup_cons] at h
    by_cases e : (k == k') = true
    · rw [e] at h
      have e2 : k = k' := by simpa using e
      cases h
      rw [e2]
      exact List.mem_cons_self
    · have e3 : (k == k') = false := by simpa using e
      rw [e3] at h
      exact List.mem_cons_of_mem _ (look_mem r h)
theorem gsh_all (P : Int → gSh → Prop) (f1 : ∀ k : Int, 100 ≤ k → k < 106 → P k (.inl (3, [some (k + 10), some (k + 20), none]))) (f2 : ∀ k : Int, 110 ≤ k → k < 116 → P k (.inr (.inl (0, 24)))) (f3 : ∀ k : Int, 120 ≤ k → k < 126 → P k (.inr (.inl (0, 24)))) (f4 : ∀ k : Int, 130 ≤ k → k < 140 → P k (.inl (4, [some (k + 10), none, none]))) (f5 : ∀ k : Int, 140 ≤ k → k < 150 → P k (.inr (.inl (0, 120)))) (f6 : ∀ k : Int, 200 ≤ k → k < 225 → P k (.inr (.inl (0, 121)))) (f7 : ∀ k : Int, 300 ≤ k → k < 309 → P k (.inr (.inl (0, 10)))) (ht : ∀ x ∈ gtab, P x.1 x.2) : ∀ (k : Int) (sh : gSh), gshape k = some sh → P k sh := by
  intro k sh h
  by_cases c1 : 100 ≤ k ∧ k < 106
  · rw [sh_piece c1.1 c1.2] at h; cases h; exact f1 k c1.1 c1.2
  by_cases c2 : 110 ≤ k ∧ k < 116
  · rw [sh_pitches c2.1 c2.2] at h; cases h; exact f2 k c2.1 c2.2
  by_cases c3 : 120 ≤ k ∧ k < 126
  · rw [sh_beats c3.1 c3.2] at h; cases h; exact f3 k c3.1 c3.2
  by_cases c4 : 130 ≤ k ∧ k < 140
  · rw [sh_recording c4.1 c4.2] at h; cases h; exact f4 k c4.1 c4.2
  by_cases c5 : 140 ≤ k ∧ k < 150
  · rw [sh_readings c5.1 c5.2] at h; cases h; exact f5 k c5.1 c5.2
  by_cases c6 : 200 ≤ k ∧ k < 225
  · rw [sh_bestrow c6.1 c6.2] at h; cases h; exact f6 k c6.1 c6.2
  by_cases c7 : 300 ≤ k ∧ k < 309
  · rw [sh_rankrow c7.1 c7.2] at h; cases h; exact f7 k c7.1 c7.2
  unfold gshape at h
  rw [if_neg c1, if_neg c2, if_neg c3, if_neg c4, if_neg c5, if_neg c6, if_neg c7] at h
  exact ht _ (look_mem gtab h)
theorem gof_t {k : Int} (h1 : ¬ (100 ≤ k ∧ k < 106)) (h2 : ¬ (110 ≤ k ∧ k < 116)) (h3 : ¬ (120 ≤ k ∧ k < 126)) (h4 : ¬ (130 ≤ k ∧ k < 140)) (h5 : ¬ (140 ≤ k ∧ k < 150)) (h6 : ¬ (200 ≤ k ∧ k < 225)) (h7 : ¬ (300 ≤ k ∧ k < 309)) : gof1 k = (List.lookup k gofT).getD 0 := by
  unfold gof1
  rw [if_neg h1, if_neg h2, if_neg h3, if_neg h4, if_neg h5, if_neg h6, if_neg h7]
theorem gofs : ∀ (k : Int) (sh : gSh), gshape k = some sh → gof1 k < 125 ∧ gky (gof1 k) = k := by
  refine gsh_all _ ?_ ?_ ?_ ?_ ?_ ?_ ?_ ?_
  · intro k a c
    have e : gof1 k = 2 + 3 * (k - 100).toNat := if_pos ⟨a, c⟩
    rw [e]
    refine ⟨by omega, ?_⟩
    unfold gky
    rw [if_pos (by omega), if_pos (by omega)]
    omega
  · intro k a c
    have e : gof1 k = 3 + 3 * (k - 110).toNat := by unfold gof1; rw [if_neg (by omega), if_pos ⟨a, c⟩]
    rw [e]
    refine ⟨by omega, ?_⟩
    unfold gky
    rw [if_pos (by omega), if_neg (by omega), if_pos (by omega)]
    omega
  · intro k a c
    have e : gof1 k = 4 + 3 * (k - 120).toNat := by unfold gof1; rw [if_neg (by omega), if_neg (by omega), if_pos ⟨a, c⟩]
    rw [e]
    refine ⟨by omega, ?_⟩
    unfold gky
    rw [if_pos (by omega), if_neg (by omega), if_neg (by omega)]
    omega
  · intro k a c
    have e : gof1 k = 21 + 2 * (k - 130).toNat := by unfold gof1; rw [if_neg (by omega), if_neg (by omega), if_neg (by omega), if_pos ⟨a, c⟩]
    rw [e]
    refine ⟨by omega, ?_⟩
    unfold gky
    rw [if_neg (by omega), if_pos (by omega), if_pos (by omega)]
    omega
  · intro k a c
    have e : gof1 k = 22 + 2 * (k - 140).toNat := by unfold gof1; rw [if_neg (by omega), if_neg (by omega), if_neg (by omega), if_neg (by omega), if_pos ⟨a, c⟩]
    rw [e]
    refine ⟨by omega, ?_⟩
    unfold gky
    rw [if_neg (by omega), if_pos (by omega), if_neg (by omega)]
    omega
  · intro k a c
    have e : gof1 k = 48 + (k - 200).toNat := by unfold gof1; rw [if_neg (by omega), if_neg (by omega), if_neg (by omega), if_neg (by omega), if_neg (by omega), if_pos ⟨a, c⟩]
    rw [e]
    refine ⟨by omega, ?_⟩
    unfold gky
    rw [if_neg (by omega), if_neg (by omega), if_pos (by omega)]
    omega
  · intro k a c
    have e : gof1 k = 79 + (k - 300).toNat := by unfold gof1; rw [if_neg (by omega), if_neg (by omega), if_neg (by omega), if_neg (by omega), if_neg (by omega), if_neg (by omega), if_pos ⟨a, c⟩]
    rw [e]
    refine ⟨by omega, ?_⟩
    unfold gky
    rw [if_neg (by omega), if_neg (by omega), if_neg (by omega), if_pos (by omega)]
    omega
  · unfold gtab
    exact List.forall_mem_cons.mpr ⟨⟨by decide +kernel, by decide +kernel⟩, List.forall_mem_cons.mpr ⟨⟨by decide +kernel, by decide +kernel⟩, List.forall_mem_cons.mpr ⟨⟨by decide +kernel, by decide +kernel⟩, List.forall_mem_cons.mpr ⟨⟨by decide +kernel, by decide +kernel⟩, List.forall_mem_cons.mpr ⟨⟨by decide +kernel, by decide +kernel⟩, List.forall_mem_cons.mpr ⟨⟨by decide +kernel, by decide +kernel⟩, List.forall_mem_cons.mpr ⟨⟨by decide +kernel, by decide +kernel⟩, List.forall_mem_cons.mpr ⟨⟨by decide +kernel, by decide +kernel⟩, List.forall_mem_cons.mpr ⟨⟨by decide +kernel, by decide +kernel⟩, List.forall_mem_cons.mpr ⟨⟨by decide +kernel, by decide +kernel⟩, List.forall_mem_cons.mpr ⟨⟨by decide +kernel, by decide +kernel⟩, List.forall_mem_cons.mpr ⟨⟨by decide +kernel, by decide +kernel⟩, List.forall_mem_cons.mpr ⟨⟨by decide +kernel, by decide +kernel⟩, List.forall_mem_cons.mpr ⟨⟨by decide +kernel, by decide +kernel⟩, List.forall_mem_cons.mpr ⟨⟨by decide +kernel, by decide +kernel⟩, List.forall_mem_cons.mpr ⟨⟨by decide +kernel, by decide +kernel⟩, List.forall_mem_cons.mpr ⟨⟨by decide +kernel, by decide +kernel⟩, List.forall_mem_cons.mpr ⟨⟨by decide +kernel, by decide +kernel⟩, List.forall_mem_cons.mpr ⟨⟨by decide +kernel, by decide +kernel⟩, List.forall_mem_cons.mpr ⟨⟨by decide +kernel, by decide +kernel⟩, List.forall_mem_cons.mpr ⟨⟨by decide +kernel, by decide +kernel⟩, List.forall_mem_cons.mpr ⟨⟨by decide +kernel, by decide +kernel⟩, List.forall_mem_cons.mpr ⟨⟨by decide +kernel, by decide +kernel⟩, List.forall_mem_cons.mpr ⟨⟨by decide +kernel, by decide +kernel⟩, List.forall_mem_cons.mpr ⟨⟨by decide +kernel, by decide +kernel⟩, List.forall_mem_cons.mpr ⟨⟨by decide +kernel, by decide +kernel⟩, List.forall_mem_cons.mpr ⟨⟨by decide +kernel, by decide +kernel⟩, List.forall_mem_cons.mpr ⟨⟨by decide +kernel, by decide +kernel⟩, List.forall_mem_cons.mpr ⟨⟨by decide +kernel, by decide +kernel⟩, List.forall_mem_cons.mpr ⟨⟨by decide +kernel, by decide +kernel⟩, List.forall_mem_cons.mpr ⟨⟨by decide +kernel, by decide +kernel⟩, List.forall_mem_cons.mpr ⟨⟨by decide +kernel, by decide +kernel⟩, List.forall_mem_cons.mpr ⟨⟨by decide +kernel, by decide +kernel⟩, List.forall_mem_cons.mpr ⟨⟨by decide +kernel, by decide +kernel⟩, List.forall_mem_cons.mpr ⟨⟨by decide +kernel, by decide +kernel⟩, List.forall_mem_cons.mpr ⟨⟨by decide +kernel, by decide +kernel⟩, List.forall_mem_cons.mpr ⟨⟨by decide +kernel, by decide +kernel⟩, List.forall_mem_cons.mpr ⟨⟨by decide +kernel, by decide +kernel⟩, List.forall_mem_cons.mpr ⟨⟨by decide +kernel, by decide +kernel⟩, List.forall_mem_cons.mpr ⟨⟨by decide +kernel, by decide +kernel⟩, List.forall_mem_cons.mpr ⟨⟨by decide +kernel, by decide +kernel⟩, List.forall_mem_cons.mpr ⟨⟨by decide +kernel, by decide +kernel⟩, List.forall_mem_cons.mpr ⟨⟨by decide +kernel, by decide +kernel⟩, List.forall_mem_cons.mpr ⟨⟨by decide +kernel, by decide +kernel⟩, List.forall_mem_cons.mpr ⟨⟨by decide +kernel, by decide +kernel⟩, List.forall_mem_cons.mpr ⟨⟨by decide +kernel, by decide +kernel⟩, List.forall_mem_cons.mpr ⟨⟨by decide +kernel, by decide +kernel⟩, List.forall_mem_cons.mpr ⟨⟨by decide +kernel, by decide +kernel⟩, List.forall_mem_cons.mpr ⟨⟨by decide +kernel, by decide +kernel⟩, List.forall_mem_cons.mpr ⟨⟨by decide +kernel, by decide +kernel⟩, List.forall_mem_cons.mpr ⟨⟨by decide +kernel, by decide +kernel⟩, List.forall_mem_cons.mpr ⟨⟨by decide +kernel, by decide +kernel⟩, List.forall_mem_cons.mpr ⟨⟨by decide +kernel, by decide +kernel⟩, fun _ h => absurd h List.not_mem_nil⟩⟩⟩⟩⟩⟩⟩⟩⟩⟩⟩⟩⟩⟩⟩⟩⟩⟩⟩⟩⟩⟩⟩⟩⟩⟩⟩⟩⟩⟩⟩⟩⟩⟩⟩⟩⟩⟩⟩⟩⟩⟩⟩⟩⟩⟩⟩⟩⟩⟩⟩⟩⟩
theorem gad_inj (dC : Nat → ClassId) (dI : Nat → Nat → Nat) (tc : Nat → ClassId) (b : Nat) : gInj (dC, dI, gad b, tc) := by
  intro k sh k' sh' h h' e
  have e' : gof1 k = gof1 k' := by
    have : b + gof1 k = b + gof1 k' := e
    omega
  rw [← (gofs k sh h).2, ← (gofs k' sh' h').2, e']
theorem g_arrV {c : ClassId} {n : Nat} {f g : Nat → Value} (h : ∀ j, j < n → f j = g j) : arrV c n f = arrV c n g := by
  unfold arrV
  congr 1
  apply Array.ext
  · simp
  · intro i h1 h2
    simp at h1
    simp [h i h1]
theorem gq_at {D : va_G} {cl : List vw_C} {q n : Nat} {cA : ClassId} {f g : Nat → Option Nat} {H : Heap} (h : va_at D cl (q, .inl (cA, n, .inr (.inr (.inr (.inr f))))) H) (e : ∀ j, j < n → f j = g j) : va_at D cl (q, .inl (cA, n, .inr (.inr (.inr (.inr g))))) H := by
  have h' : H[q]? = some (vp_cell cA (n, .inr (.inr (.inr (.inr f))))) := h
  show H[q]? = some (vp_cell cA (n, .inr (.inr (.inr (.inr g)))))
  rw [h', vp_cell_q, vp_cell_q, g_arrV (fun j hj => by rw [e j hj])]
theorem two_ref {x y x' y' : Nat} (h : x = x') (h' : y = y') : (.inr (3, [.ref x, .ref y, vi 0]) : va_E) = .inr (3, [.ref x', .ref y', vi 0]) := by
  subst h; subst h'; rfl
theorem one_ref {x x' : Nat} (h : x = x') : (.inr (4, [.ref x, vi 0, vi 0]) : va_E) = .inr (4, [.ref x', vi 0, vi 0]) := by
  subst h; rfl
theorem gofA (j : Nat) (hj : j < 6) : gof1 (100 + (j : Int)) = 2 + 3 * j := by
  unfold gof1
  rw [if_pos (by omega)]
  omega
theorem gofB (j : Nat) (hj : j < 10) : gof1 (130 + (j : Int)) = 21 + 2 * j := by
  unfold gof1
  rw [if_neg (by omega), if_neg (by omega), if_neg (by omega), if_pos (by omega)]
  omega
theorem gofC (j : Nat) (hj : j < 25) : gof1 (200 + (j : Int)) = 48 + j := by
  unfold gof1
  rw [if_neg (by omega), if_neg (by omega), if_neg (by omega), if_neg (by omega), if_neg (by omega), if_pos (by omega)]
  omega
theorem gofD (j : Nat) (hj : j < 9) : gof1 (300 + (j : Int)) = 79 + j := by
  unfold gof1
  rw [if_neg (by omega), if_neg (by omega), if_neg (by omega), if_neg (by omega), if_neg (by omega), if_neg (by omega), if_pos (by omega)]
  omega
set_option maxRecDepth 100000 in
set_option maxHeartbeats 8000000 in
theorem gworld {dC : Nat → ClassId} {dI : Nat → Nat → Nat} {tc : Nat → ClassId} {b : Nat} {H : Heap} (h : ∀ i, i < 125 → va_at (dC, dI) vwCl (b + i, gEall (dC, dI, gad b, tc) b i) H) : gW (dC, dI, gad b, tc) gs0 H := by
  refine gsh_all (fun k sh => va_at (dC, dI) vwCl (gad b k, gcont (dC, dI, gad b, tc) gs0 k sh) H) ?_ ?_ ?_ ?_ ?_ ?_ ?_ ?_
  · intro k a c
    have e : gof1 k = 2 + 3 * (k - 100).toNat := by unfold gof1; rw [if_pos ⟨a, c⟩]
    have hh := h (gof1 k) (by rw [e]; omega)
    have eE : gEall (dC, dI, gad b, tc) b (gof1 k) = gcont (dC, dI, gad b, tc) gs0 k (.inl (3, [some (k + 10), some (k + 20), none])) := by
      rw [e]
      unfold gEall
      rw [if_neg (by omega), if_pos (by omega)]
      unfold gEX7
      rw [if_neg (by omega), if_pos (by omega), if_pos (by omega)]
      have e2 : gof1 (k + 10) = 3 + 3 * (k - 100).toNat := by unfold gof1; rw [if_neg (by omega), if_pos (by omega)]; omega
      have e3 : gof1 (k + 20) = 4 + 3 * (k - 100).toNat := by unfold gof1; rw [if_neg (by omega), if_neg (by omega), if_pos (by omega)]; omega
      show (.inr (3, [.ref _, .ref _, vi 0]) : va_E) = .inr (3, [.ref (b + gof1 (k + 10)), .ref (b + gof1 (k + 20)), vi (gs0.1 k 2)])
      have e4 : gs0.1 k 2 = 0 := by unfold gs0; dsimp only; rw [if_neg (by omega), if_neg (by omega), if_neg (by omega), if_neg (by omega)]
      rw [e2, e3, e4]
      exact two_ref (by omega) (by omega)
    rw [eE] at hh
    exact hh
  · intro k a c
    have e : gof1 k = 3 + 3 * (k - 110).toNat := by unfold gof1; rw [if_neg (by omega), if_pos ⟨a, c⟩]
    have hh := h (gof1 k) (by rw [e]; omega)
    have eE : gEall (dC, dI, gad b, tc) b (gof1 k) = .inl (tc 0, 24, .inl (fun _ => 0)) := by
      rw [e]
      unfold gEall
      rw [if_neg (by omega), if_pos (by omega)]
      unfold gEX7
      rw [if_neg (by omega), if_pos (by omega), if_neg (by omega)]
    rw [eE] at hh
    exact hh
  · intro k a c
    have e : gof1 k = 4 + 3 * (k - 120).toNat := by unfold gof1; rw [if_neg (by omega), if_neg (by omega), if_pos ⟨a, c⟩]
    have hh := h (gof1 k) (by rw [e]; omega)
    have eE : gEall (dC, dI, gad b, tc) b (gof1 k) = .inl (tc 0, 24, .inl (fun _ => 0)) := by
      rw [e]
      unfold gEall
      rw [if_neg (by omega), if_pos (by omega)]
      unfold gEX7
      rw [if_neg (by omega), if_pos (by omega), if_neg (by omega)]
    rw [eE] at hh
    exact hh
  · intro k a c
    have e : gof1 k = 21 + 2 * (k - 130).toNat := by unfold gof1; rw [if_neg (by omega), if_neg (by omega), if_neg (by omega), if_pos ⟨a, c⟩]
    have hh := h (gof1 k) (by rw [e]; omega)
    have eE : gEall (dC, dI, gad b, tc) b (gof1 k) = gcont (dC, dI, gad b, tc) gs0 k (.inl (4, [some (k + 10), none, none])) := by
      rw [e]
      unfold gEall
      rw [if_neg (by omega), if_pos (by omega)]
      unfold gEX7
      rw [if_neg (by omega), if_neg (by omega), if_neg (by omega), if_pos (by omega), if_pos (by omega)]
      have e2 : gof1 (k + 10) = 22 + 2 * (k - 130).toNat := by unfold gof1; rw [if_neg (by omega), if_neg (by omega), if_neg (by omega), if_neg (by omega), if_pos (by omega)]; omega
      show (.inr (4, [.ref _, vi 0, vi 0]) : va_E) = .inr (4, [.ref (b + gof1 (k + 10)), vi (gs0.1 k 1), vi (gs0.1 k 2)])
      have e4 : ∀ j, gs0.1 k j = 0 := fun j => by unfold gs0; dsimp only; rw [if_neg (by omega), if_neg (by omega), if_neg (by omega), if_neg (by omega)]
      rw [e2, e4, e4]
      exact one_ref (by omega)
    rw [eE] at hh
    exact hh
  · intro k a c
    have e : gof1 k = 22 + 2 * (k - 140).toNat := by unfold gof1; rw [if_neg (by omega), if_neg (by omega), if_neg (by omega), if_neg (by omega), if_pos ⟨a, c⟩]
    have hh := h (gof1 k) (by rw [e]; omega)
    have eE : gEall (dC, dI, gad b, tc) b (gof1 k) = .inl (tc 0, 120, .inl (fun _ => 0)) := by
      rw [e]
      unfold gEall
      rw [if_neg (by omega), if_pos (by omega)]
      unfold gEX7
      rw [if_neg (by omega), if_neg (by omega), if_neg (by omega), if_pos (by omega), if_neg (by omega)]
    rw [eE] at hh
    exact hh
  · intro k a c
    have e : gof1 k = 48 + (k - 200).toNat := by unfold gof1; rw [if_neg (by omega), if_neg (by omega), if_neg (by omega), if_neg (by omega), if_neg (by omega), if_pos ⟨a, c⟩]
    have hh := h (gof1 k) (by rw [e]; omega)
    have eE : gEall (dC, dI, gad b, tc) b (gof1 k) = .inl (tc 0, 121, .inl (fun _ => 0)) := by
      rw [e]
      unfold gEall
      rw [if_neg (by omega), if_pos (by omega)]
      unfold gEX7
      rw [if_neg (by omega), if_neg (by omega), if_neg (by omega), if_neg (by omega), if_neg (by omega), if_neg (by omega), if_pos (by omega)]
      unfold gEX0
      rw [if_neg (by omega), if_neg (by omega)]
    rw [eE] at hh
    exact hh
  · intro k a c
    have e : gof1 k = 79 + (k - 300).toNat := by unfold gof1; rw [if_neg (by omega), if_neg (by omega), if_neg (by omega), if_neg (by omega), if_neg (by omega), if_neg (by omega), if_pos ⟨a, c⟩]
    have hh := h (gof1 k) (by rw [e]; omega)
    have eE : gEall (dC, dI, gad b, tc) b (gof1 k) = .inl (tc 0, 10, .inl (fun _ => 0)) := by
      rw [e]
      unfold gEall
      rw [if_neg (by omega), if_pos (by omega)]
      unfold gEX7
      rw [if_neg (by omega), if_neg (by omega), if_neg (by omega), if_neg (by omega), if_neg (by omega), if_neg (by omega), if_neg (by omega), if_neg (by omega), if_pos (by omega)]
      unfold gEX2
      rw [if_neg (by omega), if_neg (by omega)]
    rw [eE] at hh
    exact hh
  · exact List.forall_mem_cons.mpr ⟨(h 0 (by decide)), List.forall_mem_cons.mpr ⟨(gq_at (h 1 (by decide)) (fun (j : Nat) (hj : j < 6) => by rw [if_pos (by omega)]; show some _ = some (b + gof1 _); rw [gofA j hj]; congr 1; omega)), List.forall_mem_cons.mpr ⟨(gq_at (h 20 (by decide)) (fun (j : Nat) (hj : j < 10) => by rw [if_pos (by omega)]; show some _ = some (b + gof1 _); rw [gofB j hj]; congr 1; omega)), List.forall_mem_cons.mpr ⟨(h 41 (by decide)), List.forall_mem_cons.mpr ⟨(h 42 (by decide)), List.forall_mem_cons.mpr ⟨(h 76 (by decide)), List.forall_mem_cons.mpr ⟨(h 88 (by decide)), List.forall_mem_cons.mpr ⟨(h 93 (by decide)), List.forall_mem_cons.mpr ⟨(h 99 (by decide)), List.forall_mem_cons.mpr ⟨(h 43 (by decide)), List.forall_mem_cons.mpr ⟨(h 44 (by decide)), List.forall_mem_cons.mpr ⟨(h 45 (by decide)), List.forall_mem_cons.mpr ⟨(h 46 (by decide)), List.forall_mem_cons.mpr ⟨(gq_at (h 47 (by decide)) (fun (j : Nat) (hj : j < 25) => by rw [if_pos (by omega)]; show some _ = some (b + gof1 _); rw [gofC j hj]; congr 1; omega)), List.forall_mem_cons.mpr ⟨(h 73 (by decide)), List.forall_mem_cons.mpr ⟨(h 74 (by decide)), List.forall_mem_cons.mpr ⟨(h 75 (by decide)), List.forall_mem_cons.mpr ⟨(h 77 (by decide)), List.forall_mem_cons.mpr ⟨(gq_at (h 78 (by decide)) (fun (j : Nat) (hj : j < 9) => by rw [if_pos (by omega)]; show some _ = some (b + gof1 _); rw [gofD j hj]; congr 1; omega)), List.forall_mem_cons.mpr ⟨(h 89 (by decide)), List.forall_mem_cons.mpr ⟨(h 90 (by decide)), List.forall_mem_cons.mpr ⟨(h 91 (by decide)), List.forall_mem_cons.mpr ⟨(h 92 (by decide)), List.forall_mem_cons.mpr ⟨(h 94 (by decide)), List.forall_mem_cons.mpr ⟨(h 95 (by decide)), List.forall_mem_cons.mpr ⟨(h 96 (by decide)), List.forall_mem_cons.mpr ⟨(h 97 (by decide)), List.forall_mem_cons.mpr ⟨(h 98 (by decide)), List.forall_mem_cons.mpr ⟨(h 100 (by decide)), List.forall_mem_cons.mpr ⟨(h 101 (by decide)), List.forall_mem_cons.mpr ⟨(h 102 (by decide)), List.forall_mem_cons.mpr ⟨(h 103 (by decide)), List.forall_mem_cons.mpr ⟨(h 104 (by decide)), List.forall_mem_cons.mpr ⟨(h 105 (by decide)), List.forall_mem_cons.mpr ⟨(h 106 (by decide)), List.forall_mem_cons.mpr ⟨(h 107 (by decide)), List.forall_mem_cons.mpr ⟨(h 108 (by decide)), List.forall_mem_cons.mpr ⟨(h 109 (by decide)), List.forall_mem_cons.mpr ⟨(h 110 (by decide)), List.forall_mem_cons.mpr ⟨(h 111 (by decide)), List.forall_mem_cons.mpr ⟨(h 112 (by decide)), List.forall_mem_cons.mpr ⟨(h 113 (by decide)), List.forall_mem_cons.mpr ⟨(h 114 (by decide)), List.forall_mem_cons.mpr ⟨(h 115 (by decide)), List.forall_mem_cons.mpr ⟨(h 116 (by decide)), List.forall_mem_cons.mpr ⟨(h 117 (by decide)), List.forall_mem_cons.mpr ⟨(h 118 (by decide)), List.forall_mem_cons.mpr ⟨(h 119 (by decide)), List.forall_mem_cons.mpr ⟨(h 120 (by decide)), List.forall_mem_cons.mpr ⟨(h 121 (by decide)), List.forall_mem_cons.mpr ⟨(h 122 (by decide)), List.forall_mem_cons.mpr ⟨(h 123 (by decide)), List.forall_mem_cons.mpr ⟨(h 124 (by decide)), fun _ h => absurd h List.not_mem_nil⟩⟩⟩⟩⟩⟩⟩⟩⟩⟩⟩⟩⟩⟩⟩⟩⟩⟩⟩⟩⟩⟩⟩⟩⟩⟩⟩⟩⟩⟩⟩⟩⟩⟩⟩⟩⟩⟩⟩⟩⟩⟩⟩⟩⟩⟩⟩⟩⟩⟩⟩⟩⟩

