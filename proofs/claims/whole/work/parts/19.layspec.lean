/-! ===== the laying, as numbers ===== -/
def grc (hole r p : Int) : Int := if r = -1 then hole else min (gabs (r - p)) 300
def gsc (tempo stretch lack t b : Int) : Int := stretch * gabs (t - b * tempo) + (if t = 0 then lack else 0)
def gMs (s : gS) : Prop := (1 ≤ s.1 3 0 ∧ s.1 3 0 ≤ 8) ∧ (0 ≤ s.1 3 1 ∧ s.1 3 1 ≤ 1000) ∧ (0 ≤ s.1 3 2 ∧ s.1 3 2 ≤ 1000) ∧ (0 ≤ s.1 3 3 ∧ s.1 3 3 ≤ 10000) ∧ (0 ≤ s.1 3 4 ∧ s.1 3 4 ≤ 1000)
def gRd (s : gS) (k : Int) : Prop := (0 ≤ s.1 k 1 ∧ s.1 k 1 ≤ 120) ∧ ∀ i : Int, 0 ≤ i → i < s.1 k 1 → -1 ≤ s.2 (k + 10) i ∧ s.2 (k + 10) i ≤ 4800
/-- t is s but for one row, for two rows -/
def goff (s t : gS) (k : Int) : Prop := t.1 = s.1 ∧ ∀ k' : Int, k' ≠ k → t.2 k' = s.2 k'
def goff2 (s t : gS) (k l : Int) : Prop := t.1 = s.1 ∧ ∀ k' : Int, k' ≠ k → k' ≠ l → t.2 k' = s.2 k'
theorem goff.rf (s : gS) (k : Int) : goff s s k := ⟨rfl, fun _ _ => rfl⟩
theorem goff.put {s t : gS} {k : Int} (h : goff s t k) (i v : Int) : goff s (gpA t k i v) k := ⟨h.1, fun k' hk => by
  rw [← h.2 k' hk]; funext j; exact gpA_nk hk⟩
theorem goff2.rf (s : gS) (k l : Int) : goff2 s s k l := ⟨rfl, fun _ _ _ => rfl⟩
theorem goff2.put1 {s t : gS} {k l : Int} (h : goff2 s t k l) (i v : Int) : goff2 s (gpA t k i v) k l := ⟨h.1, fun k' hk hl => by
  rw [← h.2 k' hk hl]; funext j; exact gpA_nk hk⟩
theorem goff2.put2 {s t : gS} {k l : Int} (h : goff2 s t k l) (i v : Int) : goff2 s (gpA t l i v) k l := ⟨h.1, fun k' hk hl => by
  rw [← h.2 k' hk hl]; funext j; exact gpA_nk hl⟩
/-- m is the least of f over a .. b -/
def gMn (f : Int → Int) (a b m : Int) : Prop := (∃ j : Int, a ≤ j ∧ j ≤ b ∧ m = f j) ∧ ∀ j : Int, a ≤ j → j ≤ b → m ≤ f j
theorem gMn.one (f : Int → Int) (a : Int) : gMn f a a (f a) := ⟨⟨a, by omega, by omega, rfl⟩, fun j h1 h2 => by rw [show j = a by omega]; omega⟩
theorem gMn.down {f : Int → Int} {a b m : Int} (h : gMn f (a + 1) b m) : gMn f a b (min m (f a)) := by
  obtain ⟨⟨j, h1, h2, h3⟩, h4⟩ := h
  refine ⟨?_, fun i i1 i2 => ?_⟩
  · by_cases q : m ≤ f a
    · exact ⟨j, by omega, h2, by omega⟩
    · exact ⟨a, by omega, by omega, by omega⟩
  · by_cases e : i = a
    · subst e; omega
    · have := h4 i (by omega) i2; omega
theorem gMn.up {f : Int → Int} {a b m : Int} (hab : a ≤ b + 1) (h : gMn f a b m) : gMn f a (b + 1) (min m (f (b + 1))) := by
  obtain ⟨⟨j, h1, h2, h3⟩, h4⟩ := h
  refine ⟨?_, fun i i1 i2 => ?_⟩
  · by_cases q : m ≤ f (b + 1)
    · exact ⟨j, h1, by omega, by omega⟩
    · exact ⟨b + 1, by omega, by omega, by omega⟩
  · by_cases e : i = b + 1
    · subst e; omega
    · have := h4 i i1 (by omega); omega
theorem gMn.uniq {f : Int → Int} {a b m n : Int} (h : gMn f a b m) (k : gMn f a b n) : m = n := by
  obtain ⟨⟨j, h1, h2, h3⟩, h4⟩ := h
  obtain ⟨⟨i, k1, k2, k3⟩, k4⟩ := k
  have := h4 i k1 k2
  have := k4 j h1 h2
  omega
theorem gMn.congr {f g : Int → Int} {a b m : Int} (h : gMn f a b m) (e : ∀ j, a ≤ j → j ≤ b → f j = g j) : gMn g a b m := by
  obtain ⟨⟨j, h1, h2, h3⟩, h4⟩ := h
  exact ⟨⟨j, h1, h2, by rw [h3, e j h1 h2]⟩, fun i i1 i2 => by rw [← e i i1 i2]; exact h4 i i1 i2⟩
/-- two stretches side by side -/
theorem gMn.join {f : Int → Int} {a b c m n : Int} (h : gMn f a b m) (k : gMn f (b + 1) c n) (hab : a ≤ b + 1) (hbc : b ≤ c) : gMn f a c (min m n) := by
  obtain ⟨⟨j, h1, h2, h3⟩, h4⟩ := h
  obtain ⟨⟨i, k1, k2, k3⟩, k4⟩ := k
  refine ⟨?_, fun q q1 q2 => ?_⟩
  · by_cases z : m ≤ n
    · exact ⟨j, h1, by omega, by omega⟩
    · exact ⟨i, by omega, k2, by omega⟩
  · by_cases z : q ≤ b
    · have := h4 q q1 z; omega
    · have := k4 q (by omega) q2; omega
/-- the same least, all moved by d and the numbers too -/
theorem gMn.shift {f g : Int → Int} {a b m : Int} (i d : Int) (h : gMn f a b m) (e : ∀ t, a ≤ i + t → i + t ≤ b → g t = f (i + t) + d) : gMn g (a - i) (b - i) (m + d) := by
  obtain ⟨⟨j, h1, h2, h3⟩, h4⟩ := h
  refine ⟨⟨j - i, by omega, by omega, ?_⟩, fun t t1 t2 => ?_⟩
  · rw [e (j - i) (by omega) (by omega), show i + (j - i) = j by omega, h3]
  · rw [e t (by omega) (by omega)]
    have := h4 (i + t) (by omega) (by omega)
    omega
theorem gabs_bd (a : Int) : 0 ≤ gabs a := by unfold gabs; split <;> omega
theorem grc_bd {hole r p : Int} (h : 0 ≤ hole ∧ hole ≤ 1000) : 0 ≤ grc hole r p ∧ grc hole r p ≤ 1000 := by
  unfold grc
  have := gabs_bd (r - p)
  split <;> omega
theorem gmul_bd {a b A B : Int} (ha : 0 ≤ a ∧ a ≤ A) (hb : 0 ≤ b ∧ b ≤ B) : 0 ≤ a * b ∧ a * b ≤ A * B := by
  refine ⟨Int.mul_nonneg ha.1 hb.1, ?_⟩
  exact Int.mul_le_mul ha.2 hb.2 hb.1 (by omega)
theorem gsc_bd {tempo stretch lack t b : Int} (h1 : 1 ≤ tempo ∧ tempo ≤ 8) (h2 : 0 ≤ stretch ∧ stretch ≤ 1000) (h3 : 0 ≤ lack ∧ lack ≤ 10000) (ht : 0 ≤ t ∧ t ≤ 120) (hb : 1 ≤ b ∧ b ≤ 8) : 0 ≤ gsc tempo stretch lack t b ∧ gsc tempo stretch lack t b ≤ 130000 := by
  have hd := gmul_bd (a := b) (b := tempo) (A := 8) (B := 8) (by omega) (by omega)
  have ha : 0 ≤ gabs (t - b * tempo) ∧ gabs (t - b * tempo) ≤ 120 := by unfold gabs; split <;> omega
  have := gmul_bd h2 ha
  unfold gsc
  split <;> omega
theorem gsc_0 {tempo stretch lack b : Int} (h1 : 1 ≤ tempo ∧ tempo ≤ 8) (h2 : 0 ≤ stretch ∧ stretch ≤ 1000) (h3 : 0 ≤ lack ∧ lack ≤ 10000) (hb : 1 ≤ b ∧ b ≤ 8) : gsc tempo stretch lack 0 b ≤ 74000 := by
  have hd := gmul_bd (a := b) (b := tempo) (A := 8) (B := 8) (by omega) (by omega)
  have ha : 0 ≤ gabs (0 - b * tempo) ∧ gabs (0 - b * tempo) ≤ 64 := by unfold gabs; split <;> omega
  have := gmul_bd h2 ha
  unfold gsc
  split <;> omega
/-- the two rows that a note's end is sought in -/
def gSB (s : gS) (k e : Int) : Prop := ∀ i : Int, 0 ≤ i → i ≤ e → (0 ≤ s.2 14 i ∧ s.2 14 i ≤ 120000) ∧ (0 ≤ s.2 k i ∧ s.2 k i ≤ 1000000000)
def gTb (s : gS) (e : Int) : Prop := ∀ i : Int, 0 ≤ i → i ≤ e → (0 ≤ s.2 15 i + (s.1 3 2) * i ∧ s.2 15 i + (s.1 3 2) * i ≤ 1000120000) ∧ gMn (fun j => (s.2 15 j + (s.1 3 2) * j) + (s.1 3 2) * j) i e (s.2 16 i)
def gfill (s : gS) (k i p n : Int) : gS := giter (fun q t => gpA t k (i + q) p) s n
theorem gfill_put (t : gS) (k k0 i q x v : Int) : gpI (gpA (gpI t k0 1 v) k (i + q) x) k0 1 (i + q + 1) = gpI (gpA t k (i + q) x) k0 1 (i + (q + 1)) := by
  refine Prod.ext ?_ rfl
  funext k' j'
  show (if k' = k0 ∧ j' = 1 then i + q + 1 else if k' = k0 ∧ j' = 1 then v else t.1 k' j') = (if k' = k0 ∧ j' = 1 then i + (q + 1) else t.1 k' j')
  by_cases h : k' = k0 ∧ j' = 1
  · rw [if_pos h, if_pos h]; omega
  · rw [if_neg h, if_neg h, if_neg h]

