/-! ===== placings in hours ===== -/
def gcw (w g : Int → Int) (h p : Int) : Int := gsum (fun q => if g q = h then w q else 0) p
def gcnt (g : Int → Int) (h p : Int) : Int := gcw (fun _ => 1) g h p
def gop (g : Int → Int) (p : Int) : Int := giter (fun q m => max m (g q + 1)) 0 p
def gfit (cl : Int → Int → Prop) (H most : Int) (g : Int → Int) (p : Int) : Prop := 0 ≤ g p ∧ g p ≤ gop g p ∧ g p < most ∧ (∀ q : Int, 0 ≤ q → q < p → g q = g p → ¬ cl p q) ∧ gcnt g (g p) p < H
def gval (cl : Int → Int → Prop) (H most : Int) (g : Int → Int) (i : Int) : Prop := ∀ p : Int, 0 ≤ p → p < i → gfit cl H most g p
def gext (g g' : Int → Int) (i : Int) : Prop := ∀ p : Int, 0 ≤ p → p < i → g' p = g p
def glex (cl : Int → Int → Prop) (H most N i : Int) (g : Int → Int) : Prop := gval cl H most g N ∧ ∀ g' : Int → Int, gval cl H most g' N → gext g g' i → gext g g' N ∨ ∃ p : Int, i ≤ p ∧ p < N ∧ gext g g' p ∧ g p < g' p
def gnone (cl : Int → Int → Prop) (H most N i : Int) (g : Int → Int) : Prop := ∀ g' : Int → Int, gval cl H most g' N → gext g g' i → False
def gbest (cl : Int → Int → Prop) (H N n : Int) (g : Int → Int) : Prop := 0 ≤ n ∧ glex cl H n N 0 g ∧ ∀ m : Int, 0 ≤ m → m < n → gnone cl H m N 0 g
theorem gext.symm {g g' : Int → Int} {i : Int} (h : gext g g' i) : gext g' g i := fun p a b => (h p a b).symm
theorem gext.rf (g : Int → Int) (i : Int) : gext g g i := fun _ _ _ => rfl
theorem gext.trans {g g' g'' : Int → Int} {i : Int} (h : gext g g' i) (h' : gext g' g'' i) : gext g g'' i := fun p a b => (h' p a b).trans (h p a b)
theorem gext.le {g g' : Int → Int} {i j : Int} (h : gext g g' i) (hj : j ≤ i) : gext g g' j := fun p a b => h p a (by omega)
theorem gext.s {g g' : Int → Int} {i : Int} (h : gext g g' i) (e : g' i = g i) : gext g g' (i + 1) := fun p a b => by
  by_cases hp : p = i
  · rw [hp]; exact e
  · exact h p a (by omega)
theorem gop_congr {g g' : Int → Int} {p : Int} (h0 : 0 ≤ p) (h : gext g g' p) : gop g' p = gop g p := giter_congr h0 (fun i x a b => by rw [h i a b])
theorem gcw_congr {w g g' : Int → Int} {x p : Int} (h0 : 0 ≤ p) (h : gext g g' p) : gcw w g' x p = gcw w g x p := gsum_congr h0 (fun i a b => by rw [h i a b])
theorem gfit_congr {cl : Int → Int → Prop} {H most : Int} {g g' : Int → Int} {p : Int} (h0 : 0 ≤ p) (h : gext g g' (p + 1)) (hf : gfit cl H most g p) : gfit cl H most g' p := by
  have e : g' p = g p := h p h0 (by omega)
  obtain ⟨a, b, c, d, f⟩ := hf
  refine ⟨by omega, ?_, by omega, ?_, ?_⟩
  · rw [e, gop_congr h0 (h.le (by omega))]; exact b
  · intro q hq0 hq1 hq2
    exact d q hq0 hq1 (by rw [← h q hq0 (by omega), hq2, e])
  · rw [e]; unfold gcnt; rw [gcw_congr h0 (h.le (by omega))]; exact f
theorem gval_congr {cl : Int → Int → Prop} {H most : Int} {g g' : Int → Int} {i : Int} (h : gext g g' i) (hv : gval cl H most g i) : gval cl H most g' i := fun p a b => gfit_congr a (h.le (by omega)) (hv p a b)
theorem gval_cl {cl cl' : Int → Int → Prop} {H most : Int} {g : Int → Int} {i : Int} (h : ∀ p q : Int, 0 ≤ q → q < p → p < i → (cl' p q → cl p q)) (hv : gval cl H most g i) : gval cl' H most g i := fun p a b => by
  obtain ⟨c, d, e, f, k⟩ := hv p a b
  exact ⟨c, d, e, fun q q0 q1 q2 z => f q q0 q1 q2 (h p q q0 q1 b z), k⟩
theorem glex_cl {cl cl' : Int → Int → Prop} {H most N i : Int} {g : Int → Int} (h : ∀ p q : Int, 0 ≤ q → q < p → p < N → (cl p q ↔ cl' p q)) (hv : glex cl H most N i g) : glex cl' H most N i g :=
  ⟨gval_cl (fun p q a b c => (h p q a b c).mpr) hv.1, fun g' hg he => hv.2 g' (gval_cl (fun p q a b c => (h p q a b c).mp) hg) he⟩
theorem gnone_cl {cl cl' : Int → Int → Prop} {H most N i : Int} {g : Int → Int} (h : ∀ p q : Int, 0 ≤ q → q < p → p < N → (cl p q ↔ cl' p q)) (hv : gnone cl H most N i g) : gnone cl' H most N i g :=
  fun g' hg he => hv g' (gval_cl (fun p q a b c => (h p q a b c).mp) hg) he
theorem gbest_cl {cl cl' : Int → Int → Prop} {H N n : Int} {g : Int → Int} (h : ∀ p q : Int, 0 ≤ q → q < p → p < N → (cl p q ↔ cl' p q)) (hv : gbest cl H N n g) : gbest cl' H N n g :=
  ⟨hv.1, glex_cl h hv.2.1, fun m a b => gnone_cl h (hv.2.2 m a b)⟩
theorem glex_ext {cl : Int → Int → Prop} {H most N i : Int} {g g' : Int → Int} (he : gext g g' N) (h0 : 0 ≤ i) (hi : i ≤ N) (hv : glex cl H most N i g) : glex cl H most N i g' :=
  ⟨gval_congr he hv.1, fun k hk hx => by
    rcases hv.2 k hk ((he.le hi).trans hx) with z | ⟨p, a, b, c, d⟩
    · exact Or.inl (he.symm.trans z)
    · refine Or.inr ⟨p, a, b, (he.symm.le (by omega)).trans c, ?_⟩
      rw [he p (by omega) b]; exact d⟩
theorem gnone_ext {cl : Int → Int → Prop} {H most N i : Int} {g g' : Int → Int} (he : gext g g' i) (hv : gnone cl H most N i g) : gnone cl H most N i g' := fun k hk hx => hv k hk (he.trans hx)
theorem glex_uniq {cl : Int → Int → Prop} {H most N : Int} {g g' : Int → Int} (h : glex cl H most N 0 g) (h' : glex cl H most N 0 g') : gext g g' N := by
  rcases h.2 g' h'.1 (fun p a b => by omega) with z | ⟨p, a, b, c, d⟩
  · exact z
  · rcases h'.2 g h.1 (fun p a b => by omega) with z | ⟨p', a', b', c', d'⟩
    · exact z.symm
    · exfalso
      rcases Int.lt_trichotomy p p' with z | z | z
      · have := c' p a z; omega
      · subst z; omega
      · have := c p' a' z; omega
theorem gbest_uniq {cl : Int → Int → Prop} {H N n n' : Int} {g g' : Int → Int} (h : gbest cl H N n g) (h' : gbest cl H N n' g') : n = n' ∧ gext g g' N := by
  have e : n = n' := by
    rcases Int.lt_trichotomy n n' with z | z | z
    · exact (h'.2.2 n h.1 z g h.2.1.1 (fun p a b => by omega)).elim
    · exact z
    · exact (h.2.2 n' h'.1 z g' h'.2.1.1 (fun p a b => by omega)).elim
  subst e
  exact ⟨rfl, glex_uniq h.2.1 h'.2.1⟩
theorem gop_s (g : Int → Int) {p : Int} (h : 0 ≤ p) : gop g (p + 1) = max (gop g p) (g p + 1) := giter_s _ _ h
theorem gop_0 (g : Int → Int) : gop g 0 = 0 := rfl
theorem gop_bd {g : Int → Int} {N : Int} (h : ∀ p : Int, 0 ≤ p → p < N → g p ≤ gop g p) : ∀ p : Int, 0 ≤ p → p ≤ N → 0 ≤ gop g p ∧ gop g p ≤ p := by
  have key : ∀ d : Nat, (d : Int) ≤ N → 0 ≤ gop g d ∧ gop g d ≤ d := by
    intro d
    induction d with
    | zero => intro _; rw [show ((0 : Nat) : Int) = 0 from rfl, gop_0]; omega
    | succ d ih =>
      intro hd
      have i1 := ih (by omega)
      have h1 := h d (by omega) (by omega)
      rw [show ((d + 1 : Nat) : Int) = (d : Int) + 1 by omega, gop_s g (by omega)]
      omega
  intro p h0 h1
  have := key p.toNat (by omega)
  rw [Int.toNat_of_nonneg h0] at this
  exact this
theorem gop_id : ∀ p : Int, 0 ≤ p → gop (fun q => q) p = p := by
  have key : ∀ d : Nat, gop (fun q => q) d = d := by
    intro d
    induction d with
    | zero => rfl
    | succ d ih => rw [show ((d + 1 : Nat) : Int) = (d : Int) + 1 by omega, gop_s _ (by omega), ih]; omega
  intro p h0
  have := key p.toNat
  rw [Int.toNat_of_nonneg h0] at this
  exact this
theorem gsum_z {f : Int → Int} {n : Int} (h0 : 0 ≤ n) (h : ∀ i, 0 ≤ i → i < n → f i = 0) : gsum f n = 0 := by
  rw [gsum_tail (m := 0) (by omega) h0 h]; rfl
theorem gfeas {cl : Int → Int → Prop} {H N : Int} (hH : 1 ≤ H) (g : Int → Int) : ¬ gnone cl H N N 0 g := by
  intro h
  refine h (fun q => q) (fun p a b => ⟨a, by rw [gop_id p a]; exact Int.le_refl _, b, fun q q0 q1 q2 => by have q3 : q = p := q2; omega, ?_⟩) (fun p a b => by omega)
  unfold gcnt gcw
  rw [gsum_z a (fun q q0 q1 => if_neg (by show ¬ q = p; omega))]
  omega
theorem gsum_add (f k : Int → Int) {n : Int} (h0 : 0 ≤ n) : gsum (fun i => f i + k i) n = gsum f n + gsum k n :=
  giter_ind (f := fun i a => a + (f i + k i)) (a := 0) (N := n) (fun m v => v = gsum f m + gsum k m) rfl (fun i x a b e => by rw [gsum_s f a, gsum_s k a]; omega) n h0 (Int.le_refl _)
theorem gsum_one {x c m : Int} (h0 : 0 ≤ x) (hm : 0 ≤ m) : gsum (fun h => if x = h then c else 0) m = if x < m then c else 0 :=
  giter_ind (f := fun i a => a + (if x = i then c else 0)) (a := 0) (N := m) (fun n v => v = if x < n then c else 0) (by rw [if_neg (by omega)]) (fun i v a b e => by
    rw [e]
    by_cases h1 : x = i
    · rw [if_neg (by omega), if_pos h1, if_pos (by omega)]; omega
    · by_cases h2 : x < i
      · rw [if_pos h2, if_neg h1, if_pos (by omega)]; omega
      · rw [if_neg h2, if_neg h1, if_neg (by omega)]; omega) m hm (Int.le_refl _)
theorem gcw_s (w g : Int → Int) (h : Int) {p : Int} (h0 : 0 ≤ p) : gcw w g h (p + 1) = gcw w g h p + (if g p = h then w p else 0) := gsum_s _ h0
theorem gcw_all {w g : Int → Int} {m N : Int} (hm : 0 ≤ m) (hg : ∀ q, 0 ≤ q → q < N → 0 ≤ g q ∧ g q < m) : ∀ p : Int, 0 ≤ p → p ≤ N → gsum (fun h => gcw w g h p) m = gsum w p := by
  have key : ∀ d : Nat, (d : Int) ≤ N → gsum (fun h => gcw w g h d) m = gsum w d := by
    intro d
    induction d with
    | zero => intro _; exact gsum_z hm (fun _ _ _ => rfl)
    | succ d ih =>
      intro hd
      rw [show ((d + 1 : Nat) : Int) = (d : Int) + 1 by omega, gsum_s w (by omega), ← ih (by omega)]
      have e : gsum (fun h => gcw w g h ((d : Int) + 1)) m = gsum (fun h => gcw w g h d + (if g d = h then w d else 0)) m := gsum_congr hm (fun h _ _ => gcw_s w g h (by omega))
      rw [e, gsum_add _ _ hm, gsum_one (hg d (by omega) (by omega)).1 hm, if_pos (hg d (by omega) (by omega)).2]
  intro p h0 h1
  have := key p.toNat (by omega)
  rw [Int.toNat_of_nonneg h0] at this
  exact this
theorem gsum_1 {n : Int} (h0 : 0 ≤ n) : gsum (fun _ => 1) n = n :=
  giter_ind (f := fun _ a => a + 1) (a := 0) (N := n) (fun m v => v = m) rfl (fun i x a b e => by omega) n h0 (Int.le_refl _)
theorem gval_room {cl : Int → Int → Prop} {H most N : Int} {g : Int → Int} (hN : 0 ≤ N) (hm : 0 ≤ most) (hH : 0 ≤ H) (h : gval cl H most g N) : N ≤ most * H := by
  have a := gcw_all (w := fun _ => 1) hm (fun q a b => ⟨(h q a b).1, (h q a b).2.2.1⟩) N hN (Int.le_refl _)
  rw [gsum_1 hN] at a
  have b : ∀ x : Int, 0 ≤ gcw (fun _ => 1) g x N ∧ gcw (fun _ => 1) g x N ≤ H := fun x => by
    refine giter_ind (f := fun i a => a + (if g i = x then 1 else 0)) (a := 0) (N := N) (fun m v => v = gcw (fun _ => 1) g x m ∧ 0 ≤ v ∧ v ≤ H) ⟨rfl, by omega, hH⟩ (fun i v i0 i1 e => ?_) N hN (Int.le_refl _) |>.2
    rw [gcw_s _ _ _ i0]
    by_cases z : g i = x
    · rw [if_pos z]
      have := (h i i0 i1).2.2.2.2
      rw [z] at this
      unfold gcnt at this
      omega
    · rw [if_neg z]; omega
  have c := gsum_bd (f := fun x => gcw (fun _ => 1) g x N) (n := most) (lo := 0) (hi := H) hm (fun i _ _ => b i)
  omega
theorem gval_apart {cl : Int → Int → Prop} {H most N : Int} {g : Int → Int} (hs : ∀ p q : Int, 0 ≤ p → p < N → 0 ≤ q → q < N → cl p q → cl q p) (hr : ∀ p : Int, 0 ≤ p → p < N → ¬ cl p p) (h : gval cl H most g N) (p q : Int) (p0 : 0 ≤ p) (p1 : p < N) (q0 : 0 ≤ q) (q1 : q < N) (z : cl p q) : ¬ g p = g q := by
  intro e
  rcases Int.lt_trichotomy p q with l | l | l
  · exact (h q q0 q1).2.2.2.1 p p0 l e (hs p q p0 p1 q0 q1 z)
  · subst l; exact hr p p0 p1 z
  · exact (h p p0 p1).2.2.2.1 q q0 l e.symm z
def gneedX (cl : Int → Int → Prop) (N v : Int) : Prop := 0 ≤ v ∧ v ≤ N ∧ ∀ (m : Int) (g : Int → Int), 0 ≤ m → (∀ p : Int, 0 ≤ p → p < N → 0 ≤ g p ∧ g p < m) → (∀ p q : Int, 0 ≤ p → p < N → 0 ≤ q → q < N → cl p q → ¬ g p = g q) → v ≤ m
theorem gclique {cl : Int → Int → Prop} {w : Int → Int} {N : Int} (hN : 0 ≤ N) (hw : ∀ q : Int, 0 ≤ q → q < N → w q = 0 ∨ w q = 1) (hc : ∀ p q : Int, 0 ≤ p → p < N → 0 ≤ q → q < N → w p = 1 → w q = 1 → ¬ p = q → cl p q) : gneedX cl N (gsum w N) := by
  have h1 := gsum_bd (f := w) (n := N) (lo := 0) (hi := 1) hN (fun i a b => by have := hw i a b; omega)
  refine ⟨by omega, by omega, fun m g hm hg hd => ?_⟩
  have a := gcw_all (w := w) hm hg N hN (Int.le_refl _)
  have b : ∀ x : Int, 0 ≤ gcw w g x N ∧ gcw w g x N ≤ 1 := fun x => by
    have := giter_ind (f := fun i a => a + (if g i = x then w i else 0)) (a := 0) (N := N) (fun m v => (v = 0 ∨ (v = 1 ∧ ∃ q : Int, 0 ≤ q ∧ q < m ∧ g q = x ∧ w q = 1))) (Or.inl rfl) (fun i v i0 i1 e => ?_) N hN (Int.le_refl _)
    · change 0 ≤ giter (fun i a => a + (if g i = x then w i else 0)) 0 N ∧ giter (fun i a => a + (if g i = x then w i else 0)) 0 N ≤ 1
      omega
    · by_cases z : g i = x
      · rw [if_pos z]
        rcases hw i i0 i1 with w0 | w1
        · rw [w0]
          rcases e with e | ⟨e, q, q0, q1, q2, q3⟩
          · exact Or.inl (by omega)
          · exact Or.inr ⟨by omega, q, q0, by omega, q2, q3⟩
        · rw [w1]
          rcases e with e | ⟨e, q, q0, q1, q2, q3⟩
          · exact Or.inr ⟨by omega, i, i0, by omega, z, w1⟩
          · exact absurd (q2.trans z.symm) (hd q i q0 (by omega) i0 i1 (hc q i q0 (by omega) i0 i1 q3 w1 (by omega)))
      · rw [if_neg z]
        rcases e with e | ⟨e, q, q0, q1, q2, q3⟩
        · exact Or.inl (by omega)
        · exact Or.inr ⟨by omega, q, q0, by omega, q2, q3⟩
  have c := gsum_bd (f := fun x => gcw w g x N) (n := m) (lo := 0) (hi := 1) hm (fun i _ _ => b i)
  omega
theorem gneedX_max {cl : Int → Int → Prop} {N v v' : Int} (h : gneedX cl N v) (h' : gneedX cl N v') : gneedX cl N (max v v') := by
  have a := h.1; have b := h.2.1; have c := h'.1; have d := h'.2.1
  refine ⟨by omega, by omega, fun m g x y z => ?_⟩
  have e := h.2.2 m g x y z
  have f := h'.2.2 m g x y z
  omega
/-! bits of twelve -/
theorem gb12 {a : Int} (hr : rng a) (h : ∀ i : Int, 12 ≤ i → i < 32 → gbit a i = 0) : 0 ≤ a ∧ a < 4096 := by
  have e : (gv a).toNat < 2 ^ 12 := by
    apply Nat.lt_pow_two_of_testBit
    intro i hi
    by_cases h32 : i < 32
    · have z := h (i : Int) (by omega) (by omega)
      rw [gbit_eq (by omega) (by omega)] at z
      by_cases q : (gv a).getLsbD i = true
      · rw [Int.toNat_natCast, if_pos q] at z; omega
      · rw [BitVec.testBit_toNat]; simpa using q
    · rw [BitVec.testBit_toNat]
      exact BitVec.getLsbD_of_ge _ _ (by omega)
  have f : a = (gv a).toInt := by
    unfold gv
    exact (gI_toInt hr).symm
  rw [BitVec.toInt_eq_toNat_of_lt (by omega)] at f
  omega
theorem gand_comm (a b : Int) : gand a b = gand b a := by
  unfold gand; rw [Int32.and_comm]

