
/-! ===== iteration over Int counters ===== -/
def git {α : Type} (f : Int → α → α) (a : α) : Nat → α
  | 0 => a
  | n + 1 => f (n : Int) (git f a n)
def giter {α : Type} (f : Int → α → α) (a : α) (n : Int) : α := git f a n.toNat
theorem giter_0 {α : Type} (f : Int → α → α) (a : α) : giter f a 0 = a := rfl
theorem giter_s {α : Type} (f : Int → α → α) (a : α) {n : Int} (h : 0 ≤ n) : giter f a (n + 1) = f n (giter f a n) := by
  unfold giter
  have e : (n + 1).toNat = n.toNat + 1 := by omega
  rw [e]
  show f (n.toNat : Int) (git f a n.toNat) = _
  have e2 : (n.toNat : Int) = n := by omega
  rw [e2]
theorem giter_ind {α : Type} {f : Int → α → α} {a : α} (P : Int → α → Prop) {N : Int} (h0 : P 0 a) (hs : ∀ i x, 0 ≤ i → i < N → P i x → P (i + 1) (f i x)) : ∀ n : Int, 0 ≤ n → n ≤ N → P n (giter f a n) := by
  have key : ∀ m : Nat, (m : Int) ≤ N → P (m : Int) (git f a m) := by
    intro m
    induction m with
    | zero => intro _; exact h0
    | succ m ih =>
      intro hm
      have := hs (m : Int) (git f a m) (by omega) (by omega) (ih (by omega))
      have e : ((m + 1 : Nat) : Int) = (m : Int) + 1 := by omega
      rw [e]
      exact this
  intro n h1 h2
  have := key n.toNat (by omega)
  unfold giter
  have e2 : (n.toNat : Int) = n := by omega
  rwa [e2] at this
theorem giter_congr {α : Type} {f g : Int → α → α} {a : α} {n : Int} (h0 : 0 ≤ n) (h : ∀ i x, 0 ≤ i → i < n → f i x = g i x) : giter f a n = giter g a n := by
  have := giter_ind (f := f) (a := a) (N := n) (P := fun i x => x = giter g a i) rfl (fun i x h1 h2 e => by rw [giter_s g a h1, ← e]; exact h i x h1 h2) n h0 (Int.le_refl n)
  exact this
def gsum (f : Int → Int) (n : Int) : Int := giter (fun i a => a + f i) 0 n
theorem gsum_0 (f : Int → Int) : gsum f 0 = 0 := rfl
theorem gsum_s (f : Int → Int) {n : Int} (h : 0 ≤ n) : gsum f (n + 1) = gsum f n + f n := giter_s _ _ h
theorem gsum_congr {f g : Int → Int} {n : Int} (h0 : 0 ≤ n) (h : ∀ i, 0 ≤ i → i < n → f i = g i) : gsum f n = gsum g n := giter_congr h0 (fun i x h1 h2 => by rw [h i h1 h2])
/-- a loop that counts up to hi -/
theorem gloop {α : Type} {hi : Int} (I : Int → α → Prop) (W : Int → α → Prop) (step : ∀ i a, i < hi → I i a → (∀ a', I (i + 1) a' → W (i + 1) a') → W i a) (done : ∀ a, I hi a → W hi a) : ∀ i a, i ≤ hi → I i a → W i a := by
  have key : ∀ (n : Nat) (i : Int) (a : α), i + n = hi → I i a → W i a := by
    intro n
    induction n with
    | zero =>
      intro i a h hI
      have : i = hi := by omega
      subst this
      exact done a hI
    | succ n ih =>
      intro i a h hI
      exact step i a (by omega) hI (fun a' hI' => ih (i + 1) a' (by omega) hI')
  intro i a h hI
  exact key (hi - i).toNat i a (by omega) hI
/-- a loop that counts down to lo -/
theorem gloopD {α : Type} {lo : Int} (I : Int → α → Prop) (W : Int → α → Prop) (step : ∀ i a, lo < i → I i a → (∀ a', I (i - 1) a' → W (i - 1) a') → W i a) (done : ∀ a, I lo a → W lo a) : ∀ i a, lo ≤ i → I i a → W i a := by
  have key : ∀ (n : Nat) (i : Int) (a : α), i = lo + n → I i a → W i a := by
    intro n
    induction n with
    | zero =>
      intro i a h hI
      have : i = lo := by omega
      subst this
      exact done a hI
    | succ n ih =>
      intro i a h hI
      exact step i a (by omega) hI (fun a' hI' => ih (i - 1) a' (by omega) hI')
  intro i a h hI
  exact key (i - lo).toNat i a (by omega) hI
