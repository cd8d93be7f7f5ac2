/-! ===== the law: rows of its own ===== -/
def gx (xs : Nat → Int32) (k : Int) : Int := (xs k.toNat).toInt
theorem gx_rng (xs : Nat → Int32) (k : Int) : rng (gx xs k) := rng_i _
def gSc (X : gX) (b L : Nat) (xs : Nat → Int32) : Prop := match X with
  | (p, l, e, R, s, m, args, below, meth, c, cells, slots, Q, A) => va_X b L xs s s.heap ∧ b < s.heap.size ∧ ¬ A b
section LROWS
variable {X : gX} {G : gG} {σ : gS} {pc : Nat} {loc : List (Nat × Value)} {st : List Value} {cc : ByteArray} {nL : Nat} {own : String} {rt : Option FieldType} {lv : Nat} {b L : Nat} {xs : Nat → Int32}
theorem l_aload {f : Fin 4} {x : Nat} (hX : gOk X G cc nL own rt lv) (hd : decode cc pc = .ok (.aload_n f, 1)) (i : Nat) (hi : loc[i]? = some ((f : Nat), .ref x)) (k : gWL X G σ (pc + 1) loc (.ref x :: st)) : gWL X G σ pc loc st := by
  obtain ⟨p, l, e, R, s, m, args, below, meth, c, cells, slots, Q, A⟩ := X
  obtain ⟨hx, hb, hml, hr, hown, hts, hK, hG, hlk, hrm, hA⟩ := hX
  intro H locs ls hW hS hl
  exact lv_aload_n hx hb hd rfl (lv_at hl i hi) (k H locs ls hW hS hl)
theorem l_len (hX : gOk X G cc nL own rt lv) (hs : gSc X b L xs) (hd : decode cc pc = .ok (.arraylength, 1)) (k : gWL X G σ (pc + 1) loc (vi (L : Int) :: st)) : gWL X G σ pc loc (.ref b :: st) := by
  obtain ⟨p, l, e, R, s, m, args, below, meth, c, cells, slots, Q, A⟩ := X
  obtain ⟨hx, hb, hml, hr, hown, hts, hK, hG, hlk, hrm, hA⟩ := hX
  intro H locs ls hW hS hl
  exact va_slen hx hb hs.1 hs.2.1 hs.2.2 hS hd (k H locs ls hW hS hl)
theorem l_iald {i : Int} (hX : gOk X G cc nL own rt lv) (hs : gSc X b L xs) (hi : 0 ≤ i ∧ i < L) (hL : L < 2147483648) (hd : decode cc pc = .ok (.iaload, 1)) (k : gWL X G σ (pc + 1) loc (vi (gx xs i) :: st)) : gWL X G σ pc loc (vi i :: .ref b :: st) := by
  obtain ⟨p, l, e, R, s, m, args, below, meth, c, cells, slots, Q, A⟩ := X
  obtain ⟨hx, hb, hml, hr, hown, hts, hK, hG, hlk, hrm, hA⟩ := hX
  intro H locs ls hW hS hl
  have h := k H locs ls hW hS hl
  have e2 : (Int32.ofInt i).toNatClampNeg = i.toNat := by have := gI_nat hi.1 hi.2 hL; omega
  refine va_sld hx hb hs.1 hs.2.1 hs.2.2 hS (gI_in hi.1 hi.2 hL) hd ?_
  rw [e2, ← vi_back]
  exact h
theorem l_eq {a a' : Int} {off : Int} {tgt : Nat} (hX : gOk X G cc nL own rt lv) (h : a = a') (hd : decode cc pc = .ok (.if_icmp .eq off, 3)) (ht : (pc : Int) + off = (tgt : Int)) (k : gWL X G σ tgt loc st) : gWL X G σ pc loc (vi a' :: vi a :: st) := by
  obtain ⟨p, l, e, R, s, m, args, below, meth, c, cells, slots, Q, A⟩ := X
  obtain ⟨hx, hb, hml, hr, hown, hts, hK, hG, hlk, hrm, hA⟩ := hX
  intro H locs ls hW hS hl
  exact lv_icmp_eq hx hb hd ht (fun _ => k H locs ls hW hS hl) (fun z => absurd (by rw [h]) z)
end LROWS
/-! what the reference needs behind the class's call -/
theorem pr_note {s t : gS} {v p x b : Int} (h : iv s) (h7 : if (0 ≤ p ∧ p ≤ 5) ∧ (0 ≤ x ∧ x ≤ 4800) ∧ (1 ≤ b ∧ b ≤ 8) ∧ s.1 (100 + p) 2 < 24 then v = s.1 (100 + p) 2 + 1 ∧ t = gNote (gpI s 4 8 (-1)) (100 + p) x b else v = -1 ∧ t = s) : ∀ q : Int, 0 ≤ q → q < 6 → 0 ≤ t.2 401 q ∧ t.2 401 q ≤ 24 := fun q a c => by
  have e : t.2 401 q = s.2 401 q := by
    split at h7
    · rename_i z
      rw [h7.2]
      show (if (401 : Int) = 100 + p + 20 ∧ _ then _ else if (401 : Int) = 100 + p + 10 ∧ _ then _ else s.2 401 q) = _
      rw [if_neg (by omega), if_neg (by omega)]
    · rw [h7.2]
  rw [e, (h.2.1.2.2.2.1 q a c).1]
  exact (h.2.1.1.2.1 q a c).1
theorem pr_read {s t : gS} {v r x n : Int} (h : iv s) (h7 : if (0 ≤ r ∧ r ≤ 9) ∧ (1 ≤ n ∧ n ≤ 60) ∧ (-1 ≤ x ∧ x ≤ 4800) ∧ s.1 (130 + r) 1 + n ≤ 120 then v = s.1 (130 + r) 1 + n ∧ t = gpI (gfill (gpI s 4 8 (-1)) ((130 + r) + 10) (s.1 (130 + r) 1) x n) (130 + r) 1 (s.1 (130 + r) 1 + n) else v = -1 ∧ t = s) : ∀ q : Int, 0 ≤ q → q < 10 → 0 ≤ t.2 405 q ∧ t.2 405 q ≤ 120 := fun q a c => by
  have e : t.2 405 q = s.2 405 q := by
    split at h7
    · rename_i z
      rw [h7.2]
      show (gfill _ _ _ _ _).2 405 q = _
      rw [(gfill_at (by omega)).2, if_neg (by omega)]; rfl
    · rw [h7.2]
  rw [e, (h.2.1.2.2.2.2 q a c).2.1]
  exact (h.2.1.1.2.2 q a c).1.1
theorem pr_lay {s t : gS} {r : Int} (D : Prop) (h : iv s) (ht : gRg t) (h1 : D → (0 ≤ r ∧ r ≤ 9) ∧ chas s t r) (h2 : ¬ D → t = s) : mV t := by
  by_cases z : D
  · exact mV_of (chas_iv h ht (h1 z).1 (h1 z).2).1.2.1
  · rw [h2 z]; exact mV_of h.2.1
theorem pr_member {s t : gS} {v p c f d : Int} (h : iv s) (h7 : if (0 ≤ p ∧ p ≤ 29) ∧ (0 ≤ c ∧ c ≤ 9) ∧ (0 ≤ f ∧ f ≤ 1000) ∧ (f ≤ d ∧ d ≤ 1000) ∧ (s.1 6 4) < 60 then v = (s.1 6 4) + 1 ∧ t = gspan s 19 20 21 22 6 4 p c f d else v = -1 ∧ t = s) : 0 ≤ t.1 400 21 ∧ t.1 400 21 ≤ 60 := by
  have e : t.1 400 21 = s.1 400 21 := by
    split at h7
    · rw [h7.2]; rfl
    · rw [h7.2]
  rw [e, h.2.2.2.1.2.1]; exact h.2.2.2.1.1
theorem pr_perform {s t : gS} {v c : Int} (h : iv s) (h7 : if (0 ≤ c ∧ c ≤ 9) ∧ s.1 7 1 < 12 then v = s.1 7 1 ∧ t = gpI (gpA s 24 (s.1 7 1) c) 7 1 ((s.1 7 1) + 1) else v = -1 ∧ t = s) : 0 ≤ t.1 400 26 ∧ t.1 400 26 ≤ 12 := by
  have e : t.1 400 26 = s.1 400 26 := by
    split at h7
    · rw [h7.2]; rfl
    · rw [h7.2]
  rw [e, h.2.2.2.2.2.2.1.1]; exact h.2.2.2.2.1.1
theorem pr_hours {s t : gS} {v d : Int} (h : iv s) (h7 : ((0 ≤ d ∧ d ≤ 1000) → ghours s t d v) ∧ (¬ (0 ≤ d ∧ d ≤ 1000) → v = -1 ∧ t = s)) : (0 ≤ t.1 400 26 ∧ t.1 400 26 ≤ 12) ∧ (1 ≤ t.1 400 28 ∧ t.1 400 28 ≤ 4) ∧ (0 ≤ t.1 400 21 ∧ t.1 400 21 ≤ 60) := by
  have e : ∀ j, t.1 400 j = s.1 400 j := fun j => by
    by_cases z : 0 ≤ d ∧ d ≤ 1000
    · exact (h7.1 z).1 400 j (fun y => by omega)
    · rw [(h7.2 z).2]
  rw [e, e, e, h.2.2.2.2.2.2.1.1, h.2.2.2.2.2.2.1.2.1, h.2.2.2.1.2.1]
  exact ⟨h.2.2.2.2.1.1, h.2.2.2.2.1.2, h.2.2.2.1.1⟩
theorem pr_m {s : gS} (h : iv s) : (0 ≤ s.1 400 21 ∧ s.1 400 21 ≤ 60) ∧ (0 ≤ s.1 400 29 ∧ s.1 400 29 ≤ 12) ∧ (0 ≤ s.1 400 16 ∧ s.1 400 16 < 1024) := by
  rw [h.2.2.2.1.2.1, h.2.2.2.2.2.2.1.2.2, h.2.2.1.2.1]
  have := h.2.2.1.1
  exact ⟨h.2.2.2.1.1, h.2.2.2.2.2.1, by omega⟩

