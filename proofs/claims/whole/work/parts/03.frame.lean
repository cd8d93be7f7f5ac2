
/-! ===== words ===== -/
def gAll : List Cond := lw_tbl.filter goodWord
def gIsNest : Cond → Bool
  | .methodLinkNest _ _ _ _ => true
  | _ => false
def gNest : List Cond := lw_tbl.filter gIsNest
theorem gm_t {w : Cond} (h : w ∈ tables_1) (hg : goodWord w = true) : w ∈ gAll := List.mem_filter.mpr ⟨List.mem_append_right _ h, hg⟩
theorem gm_1 {w : Cond} (i : Nat) (h : tables_1_1[i]? = some w) (hg : goodWord w = true) : w ∈ gAll := gm_t (List.mem_append_left _ (List.mem_of_getElem? h)) hg
theorem gm_2 {w : Cond} (i : Nat) (h : tables_1_2[i]? = some w) (hg : goodWord w = true) : w ∈ gAll := gm_t (List.mem_append_right _ (List.mem_append_left _ (List.mem_of_getElem? h))) hg
theorem gm_3 {w : Cond} (i : Nat) (h : tables_1_3[i]? = some w) (hg : goodWord w = true) : w ∈ gAll := gm_t (List.mem_append_right _ (List.mem_append_right _ (List.mem_append_left _ (List.mem_of_getElem? h)))) hg
theorem gm_4 {w : Cond} (i : Nat) (h : tables_1_4[i]? = some w) (hg : goodWord w = true) : w ∈ gAll := gm_t (List.mem_append_right _ (List.mem_append_right _ (List.mem_append_right _ (List.mem_of_getElem? h)))) hg
theorem gm_s {w : Cond} (i : Nat) (h : (k2_sels lw_privs)[i]? = some w) (hg : goodWord w = true) : w ∈ gAll := List.mem_filter.mpr ⟨List.mem_append_left _ (List.mem_of_getElem? h), hg⟩
theorem gn_1 {w : Cond} (i : Nat) (h : tables_1_1[i]? = some w) (hg : gIsNest w = true) : w ∈ gNest := List.mem_filter.mpr ⟨List.mem_append_right _ (List.mem_append_left _ (List.mem_of_getElem? h)), hg⟩
theorem gn_2 {w : Cond} (i : Nat) (h : tables_1_2[i]? = some w) (hg : gIsNest w = true) : w ∈ gNest := List.mem_filter.mpr ⟨List.mem_append_right _ (List.mem_append_right _ (List.mem_append_left _ (List.mem_of_getElem? h))), hg⟩
theorem gn_3 {w : Cond} (i : Nat) (h : tables_1_3[i]? = some w) (hg : gIsNest w = true) : w ∈ gNest := List.mem_filter.mpr ⟨List.mem_append_right _ (List.mem_append_right _ (List.mem_append_right _ (List.mem_append_left _ (List.mem_of_getElem? h)))), hg⟩
theorem gn_4 {w : Cond} (i : Nat) (h : tables_1_4[i]? = some w) (hg : gIsNest w = true) : w ∈ gNest := List.mem_filter.mpr ⟨List.mem_append_right _ (List.mem_append_right _ (List.mem_append_right _ (List.mem_append_right _ (List.mem_of_getElem? h)))), hg⟩
theorem gGood {y : MethodName} {b : ByteArray} {n : Nat} {r : Option FieldType} {Ts : List Cond} (hT : ∀ w ∈ gAll, w ∈ Ts) (h : Cond.code y b n r ∈ gAll) : GoodIn Ts (Cond.code y b n r :: gAll) := by
  intro w hw
  have h1 : w ∈ gAll := by
    rcases List.mem_cons.mp hw with rfl | h2
    · exact h
    · exact h2
  exact ⟨hT w h1, good_of_word (List.mem_filter.mp h1).2⟩
def gN (U : State) : Prop := ∀ w ∈ gNest, va_Nw w U
theorem gN.same {u U : State} (h : u.vm = U.vm) (hn : gN u) : gN U := fun w hw => by
  have h2 := (List.mem_filter.mp hw).2
  cases w <;> first | (exact va_Nw.same rfl h (hn _ hw)) | (cases h2)
theorem gN.warm {s U : State} (hW : s.WarmedH U.vm) (hn : gN s) : gN U := fun w hw => by
  have h2 := (List.mem_filter.mp hw).2
  cases w <;> first | (exact va_Nw.warmM hW (hn _ hw)) | (cases h2)
/-! ===== numbers ===== -/
def vi (n : Int) : Value := .int (Int32.ofInt n)
def rng (n : Int) : Prop := -2147483648 ≤ n ∧ n ≤ 2147483647
theorem gI_toInt {n : Int} (h : rng n) : (Int32.ofInt n).toInt = n := Int32.toInt_ofInt_of_le (by have := h.1; omega) (by have := h.2; omega)
theorem gI_eq {a b : Int} (ha : rng a) (hb : rng b) : Int32.ofInt a = Int32.ofInt b ↔ a = b := by
  rw [← Int32.toInt_inj, gI_toInt ha, gI_toInt hb]
theorem gI_lt {a b : Int} (ha : rng a) (hb : rng b) : Int32.ofInt a < Int32.ofInt b ↔ a < b := by
  rw [Int32.lt_iff_toInt_lt, gI_toInt ha, gI_toInt hb]
theorem gI_le {a b : Int} (ha : rng a) (hb : rng b) : Int32.ofInt a ≤ Int32.ofInt b ↔ a ≤ b := by
  rw [Int32.le_iff_toInt_le, gI_toInt ha, gI_toInt hb]
theorem gI_0 : (0 : Int32) = Int32.ofInt 0 := rfl
theorem rng_0 : rng 0 := ⟨by decide, by decide⟩
theorem gI_in {i : Int} {n : Nat} (h0 : 0 ≤ i) (h1 : i < n) (hn : n < 2147483648) : vp_in (Int32.ofInt i) n := by
  rw [vp_in_iff, gI_toInt ⟨by omega, by omega⟩]
  exact ⟨h0, h1⟩
theorem gI_nat {i : Int} {n : Nat} (h0 : 0 ≤ i) (h1 : i < n) (hn : n < 2147483648) : ((Int32.ofInt i).toNatClampNeg : Int) = i := by
  have h : (Int32.ofInt i).toInt.toNat = (Int32.ofInt i).toNatClampNeg := Int32.toNat_toInt _
  rw [gI_toInt ⟨by omega, by omega⟩] at h
  rw [← h]
  omega
def gand (a b : Int) : Int := (Int32.ofInt a &&& Int32.ofInt b).toInt
def gor (a b : Int) : Int := (Int32.ofInt a ||| Int32.ofInt b).toInt
def gxor (a b : Int) : Int := (Int32.ofInt a ^^^ Int32.ofInt b).toInt
def gshl (a b : Int) : Int := (Int32.ofInt a <<< (Int32.ofInt b &&& 31)).toInt
def gshr (a b : Int) : Int := (Int32.ofInt a >>> (Int32.ofInt b &&& 31)).toInt
def gushr (a b : Int) : Int := ((Int32.ofInt a).toUInt32 >>> ((Int32.ofInt b).toUInt32 &&& Int32.toUInt32 31)).toInt32.toInt
def gi2l (a : Int) : Int64 := (Int32.ofInt a).toInt64
def gl2i (a : Int64) : Int := a.toInt32.toInt
def glshl (x : Int64) (b : Int) : Int64 := x <<< ((Int32.ofInt b).toInt64 &&& 63)
def glshr (x : Int64) (b : Int) : Int64 := x >>> ((Int32.ofInt b).toInt64 &&& 63)
def glushr (x : Int64) (b : Int) : Int64 := (x.toUInt64 >>> ((Int32.ofInt b).toInt64.toUInt64 &&& Int64.toUInt64 63)).toInt64
theorem vi_back (x : Int32) : vi x.toInt = .int x := by unfold vi; rw [Int32.ofInt_toInt]
theorem rng_i (x : Int32) : rng x.toInt := ⟨by have := x.le_toInt; omega, by have := x.toInt_lt; omega⟩
def gb (p : Prop) [Decidable p] : Int := if p then 1 else 0
theorem gb_t {p : Prop} [Decidable p] (h : p) : gb p = 1 := if_pos h
theorem gb_f {p : Prop} [Decidable p] (h : ¬ p) : gb p = 0 := if_neg h
theorem gb_01 (p : Prop) [Decidable p] : gb p = 0 ∨ gb p = 1 := by
  by_cases h : p
  · exact Or.inr (gb_t h)
  · exact Or.inl (gb_f h)
theorem gb_rng (p : Prop) [Decidable p] : rng (gb p) := by
  rcases gb_01 p with h | h <;> rw [h] <;> exact ⟨by decide, by decide⟩
theorem gb_eq0 {p : Prop} [Decidable p] : gb p = 0 ↔ ¬ p := by
  by_cases h : p <;> simp [gb, h]
/-! ===== the world ===== -/
abbrev gG : Type := (Nat → ClassId) × (Nat → Nat → Nat) × (Int → Nat) × (Nat → ClassId)
abbrev gS : Type := (Int → Nat → Int) × (Int → Int → Int)
abbrev gSh : Type := (Nat × List (Option Int)) ⊕ (Nat × Nat) ⊕ (Nat × Nat × (Nat → Int))
def gR (G : gG) (k : Int) : Value := .ref (G.2.2.1 k)
def gfl (G : gG) (σ : gS) (k : Int) : Nat → List (Option Int) → List Value
  | _, [] => []
  | j, none :: r => vi (σ.1 k j) :: gfl G σ k (j + 1) r
  | j, some q :: r => gR G q :: gfl G σ k (j + 1) r
def gcont (G : gG) (σ : gS) (k : Int) (sh : gSh) : va_E := match sh with
  | .inl o => .inr (o.1, gfl G σ k 0 o.2)
  | .inr (.inl a) => .inl (G.2.2.2 a.1, a.2, .inl (fun j => Int32.ofInt (σ.2 k (j : Int))))
  | .inr (.inr a) => .inl (G.2.2.2 a.1, a.2.1, .inr (.inr (.inr (.inr (fun j => some (G.2.2.1 (a.2.2 j)))))))
def gtab : List (Int × gSh) := [
  (0, .inl (7, [some 1, some 2, some 3, some 4, some 5, some 6, some 7, some 8])),
  (1, .inr (.inr (2, 6, fun j => 100 + (j : Int)))),
  (2, .inr (.inr (3, 10, fun j => 130 + (j : Int)))),
  (3, .inl (1, [none, none, none, none, none])),
  (4, .inl (0, [some 9, some 10, some 11, some 12, none, none, none, none, none, some 13, some 14, some 15, some 16])),
  (5, .inl (2, [none, some 17, some 18])),
  (6, .inl (5, [some 19, some 20, some 21, some 22, none])),
  (7, .inl (6, [some 23, none, none, none, some 24, some 25, some 26, some 27])),
  (8, .inr (.inl (0, 12))),
  (9, .inr (.inl (0, 24))), (10, .inr (.inl (0, 24))), (11, .inr (.inl (0, 24))), (12, .inr (.inl (0, 24))),
  (13, .inr (.inr (4, 25, fun j => 200 + (j : Int)))),
  (14, .inr (.inl (0, 121))), (15, .inr (.inl (0, 121))), (16, .inr (.inl (0, 121))),
  (17, .inr (.inl (0, 9))),
  (18, .inr (.inr (4, 9, fun j => 300 + (j : Int)))),
  (19, .inr (.inl (0, 60))), (20, .inr (.inl (0, 60))), (21, .inr (.inl (0, 60))), (22, .inr (.inl (0, 60))),
  (23, .inr (.inl (0, 12))), (24, .inr (.inl (0, 12))), (25, .inr (.inl (0, 12))), (26, .inr (.inl (0, 12))), (27, .inr (.inl (0, 12))),
  (400, .inl (8, [some 401, some 402, some 403, some 404, some 405, some 406, none, none, none, none, none, some 412, some 413, some 414, some 415, some 416, none, some 418, some 419, some 420, some 421, none, some 423, some 424, some 425, some 426, none, some 428, none, none, some 431, some 432, some 433, some 434])),
  (401, .inr (.inl (0, 6))),
  (402, .inr (.inl (0, 144))),
  (403, .inr (.inl (0, 144))),
  (404, .inr (.inl (0, 10))),
  (405, .inr (.inl (0, 10))),
  (406, .inr (.inl (0, 1200))),
  (412, .inr (.inl (0, 3025))),
  (413, .inr (.inl (0, 24))),
  (414, .inr (.inl (0, 24))),
  (415, .inr (.inl (0, 24))),
  (416, .inr (.inl (1, 24))),
  (418, .inr (.inl (0, 9))),
  (419, .inr (.inl (0, 9))),
  (420, .inr (.inl (0, 90))),
  (421, .inr (.inl (0, 10))),
  (423, .inr (.inl (0, 60))),
  (424, .inr (.inl (0, 60))),
  (425, .inr (.inl (0, 60))),
  (426, .inr (.inl (0, 60))),
  (428, .inr (.inl (0, 12))),
  (431, .inr (.inl (0, 12))),
  (432, .inr (.inl (0, 12))),
  (433, .inr (.inl (1, 144))),
  (434, .inr (.inl (0, 12)))]
def gshape (k : Int) : Option gSh :=
  if 100 ≤ k ∧ k < 106 then some (.inl (3, [some (k + 10), some (k + 20), none]))
  else if 110 ≤ k ∧ k < 116 then some (.inr (.inl (0, 24)))
  else if 120 ≤ k ∧ k < 126 then some (.inr (.inl (0, 24)))
  else if 130 ≤ k ∧ k < 140 then some (.inl (4, [some (k + 10), none, none]))
  else if 140 ≤ k ∧ k < 150 then some (.inr (.inl (0, 120)))
  else if 200 ≤ k ∧ k < 225 then some (.inr (.inl (0, 121)))
  else if 300 ≤ k ∧ k < 309 then some (.inr (.inl (0, 10)))
  else List.lookup k gtab
theorem sh_piece {k : Int} (h0 : 100 ≤ k) (h1 : k < 106) : gshape k = some (.inl (3, [some (k + 10), some (k + 20), none])) := if_pos ⟨h0, h1⟩
theorem sh_pitches {k : Int} (h0 : 110 ≤ k) (h1 : k < 116) : gshape k = some (.inr (.inl (0, 24))) := by
  unfold gshape; rw [if_neg (by omega), if_pos ⟨h0, h1⟩]
theorem sh_beats {k : Int} (h0 : 120 ≤ k) (h1 : k < 126) : gshape k = some (.inr (.inl (0, 24))) := by
  unfold gshape; rw [if_neg (by omega), if_neg (by omega), if_pos ⟨h0, h1⟩]
theorem sh_recording {k : Int} (h0 : 130 ≤ k) (h1 : k < 140) : gshape k = some (.inl (4, [some (k + 10), none, none])) := by
  unfold gshape; rw [if_neg (by omega), if_neg (by omega), if_neg (by omega), if_pos ⟨h0, h1⟩]
theorem sh_readings {k : Int} (h0 : 140 ≤ k) (h1 : k < 150) : gshape k = some (.inr (.inl (0, 120))) := by
  unfold gshape; rw [if_neg (by omega), if_neg (by omega), if_neg (by omega), if_neg (by omega), if_pos ⟨h0, h1⟩]
theorem sh_bestrow {k : Int} (h0 : 200 ≤ k) (h1 : k < 225) : gshape k = some (.inr (.inl (0, 121))) := by
  unfold gshape; rw [if_neg (by omega), if_neg (by omega), if_neg (by omega), if_neg (by omega), if_neg (by omega), if_pos ⟨h0, h1⟩]
theorem sh_rankrow {k : Int} (h0 : 300 ≤ k) (h1 : k < 309) : gshape k = some (.inr (.inl (0, 10))) := by
  unfold gshape; rw [if_neg (by omega), if_neg (by omega), if_neg (by omega), if_neg (by omega), if_neg (by omega), if_neg (by omega), if_pos ⟨h0, h1⟩]
theorem sh_0 : gshape 0 = some (.inl (7, [some 1, some 2, some 3, some 4, some 5, some 6, some 7, some 8])) := rfl
theorem sh_1 : gshape 1 = some (.inr (.inr (2, 6, fun j => 100 + (j : Int)))) := rfl
theorem sh_2 : gshape 2 = some (.inr (.inr (3, 10, fun j => 130 + (j : Int)))) := rfl
theorem sh_3 : gshape 3 = some (.inl (1, [none, none, none, none, none])) := rfl
theorem sh_4 : gshape 4 = some (.inl (0, [some 9, some 10, some 11, some 12, none, none, none, none, none, some 13, some 14, some 15, some 16])) := rfl
theorem sh_5 : gshape 5 = some (.inl (2, [none, some 17, some 18])) := rfl
theorem sh_6 : gshape 6 = some (.inl (5, [some 19, some 20, some 21, some 22, none])) := rfl
theorem sh_7 : gshape 7 = some (.inl (6, [some 23, none, none, none, some 24, some 25, some 26, some 27])) := rfl
theorem sh_8 : gshape 8 = some (.inr (.inl (0, 12))) := rfl
theorem sh_9 : gshape 9 = some (.inr (.inl (0, 24))) := rfl
theorem sh_10 : gshape 10 = some (.inr (.inl (0, 24))) := rfl
theorem sh_11 : gshape 11 = some (.inr (.inl (0, 24))) := rfl
theorem sh_12 : gshape 12 = some (.inr (.inl (0, 24))) := rfl
theorem sh_13 : gshape 13 = some (.inr (.inr (4, 25, fun j => 200 + (j : Int)))) := rfl
theorem sh_14 : gshape 14 = some (.inr (.inl (0, 121))) := rfl
theorem sh_15 : gshape 15 = some (.inr (.inl (0, 121))) := rfl
theorem sh_16 : gshape 16 = some (.inr (.inl (0, 121))) := rfl
theorem sh_17 : gshape 17 = some (.inr (.inl (0, 9))) := rfl
theorem sh_18 : gshape 18 = some (.inr (.inr (4, 9, fun j => 300 + (j : Int)))) := rfl
theorem sh_19 : gshape 19 = some (.inr (.inl (0, 60))) := rfl
theorem sh_20 : gshape 20 = some (.inr (.inl (0, 60))) := rfl
theorem sh_21 : gshape 21 = some (.inr (.inl (0, 60))) := rfl
theorem sh_22 : gshape 22 = some (.inr (.inl (0, 60))) := rfl
theorem sh_23 : gshape 23 = some (.inr (.inl (0, 12))) := rfl
theorem sh_24 : gshape 24 = some (.inr (.inl (0, 12))) := rfl
theorem sh_25 : gshape 25 = some (.inr (.inl (0, 12))) := rfl
theorem sh_26 : gshape 26 = some (.inr (.inl (0, 12))) := rfl
theorem sh_27 : gshape 27 = some (.inr (.inl (0, 12))) := rfl
theorem sh_400 : gshape 400 = some (.inl (8, [some 401, some 402, some 403, some 404, some 405, some 406, none, none, none, none, none, some 412, some 413, some 414, some 415, some 416, none, some 418, some 419, some 420, some 421, none, some 423, some 424, some 425, some 426, none, some 428, none, none, some 431, some 432, some 433, some 434])) := rfl
theorem sh_401 : gshape 401 = some (.inr (.inl (0, 6))) := rfl
theorem sh_402 : gshape 402 = some (.inr (.inl (0, 144))) := rfl
theorem sh_403 : gshape 403 = some (.inr (.inl (0, 144))) := rfl
theorem sh_404 : gshape 404 = some (.inr (.inl (0, 10))) := rfl
theorem sh_405 : gshape 405 = some (.inr (.inl (0, 10))) := rfl
theorem sh_406 : gshape 406 = some (.inr (.inl (0, 1200))) := rfl
theorem sh_412 : gshape 412 = some (.inr (.inl (0, 3025))) := rfl
theorem sh_413 : gshape 413 = some (.inr (.inl (0, 24))) := rfl
theorem sh_414 : gshape 414 = some (.inr (.inl (0, 24))) := rfl
theorem sh_415 : gshape 415 = some (.inr (.inl (0, 24))) := rfl
theorem sh_416 : gshape 416 = some (.inr (.inl (1, 24))) := rfl
theorem sh_418 : gshape 418 = some (.inr (.inl (0, 9))) := rfl
theorem sh_419 : gshape 419 = some (.inr (.inl (0, 9))) := rfl
theorem sh_420 : gshape 420 = some (.inr (.inl (0, 90))) := rfl
theorem sh_421 : gshape 421 = some (.inr (.inl (0, 10))) := rfl
theorem sh_423 : gshape 423 = some (.inr (.inl (0, 60))) := rfl
theorem sh_424 : gshape 424 = some (.inr (.inl (0, 60))) := rfl
theorem sh_425 : gshape 425 = some (.inr (.inl (0, 60))) := rfl
theorem sh_426 : gshape 426 = some (.inr (.inl (0, 60))) := rfl
theorem sh_428 : gshape 428 = some (.inr (.inl (0, 12))) := rfl
theorem sh_431 : gshape 431 = some (.inr (.inl (0, 12))) := rfl
theorem sh_432 : gshape 432 = some (.inr (.inl (0, 12))) := rfl
theorem sh_433 : gshape 433 = some (.inr (.inl (1, 144))) := rfl
theorem sh_434 : gshape 434 = some (.inr (.inl (0, 12))) := rfl
def gW (G : gG) (σ : gS) (H : Heap) : Prop := ∀ (k : Int) (sh : gSh), gshape k = some sh → va_at (G.1, G.2.1) vwCl (G.2.2.1 k, gcont G σ k sh) H
def gA (G : gG) : Nat → Prop := fun q => ∃ (k : Int) (sh : gSh), gshape k = some sh ∧ q = G.2.2.1 k
def gInj (G : gG) : Prop := ∀ (k : Int) (sh : gSh) (k' : Int) (sh' : gSh), gshape k = some sh → gshape k' = some sh' → G.2.2.1 k = G.2.2.1 k' → k = k'
def gtys (G : gG) : List (ClassId × FieldType) := [(G.2.2.2 0, .int), (G.2.2.2 1, .boolean), (G.2.2.2 2, .object "GleePrize$Piece"), (G.2.2.2 3, .object "GleePrize$Recording"), (G.2.2.2 4, .array .int)]
def gK (G : gG) (U : State) : Prop := va_K (G.1, G.2.1) vwCl (gtys G) U ∧ gN U
theorem gK.warm {G : gG} {s U : State} (hW : s.WarmedH U.vm) (h : gK G s) : gK G U := ⟨va_K.moved hW.alike h.1, gN.warm hW h.2⟩
theorem gP1 {D : va_G} {cl : List vw_C} {q : Nat × va_E} {H : Heap} (h : va_at D cl q H) : va_P D cl [q] H := by
  intro k x hx
  have h0 : k < 1 := (List.getElem?_eq_some_iff.mp hx).1
  rw [show k = 0 by omega] at hx
  cases hx
  exact h
/-- field j of object k, element i of array k; and their writing -/
def gpI (σ : gS) (k : Int) (j : Nat) (v : Int) : gS := (fun k' j' => if k' = k ∧ j' = j then v else σ.1 k' j', σ.2)
def gpA (σ : gS) (k : Int) (i v : Int) : gS := (σ.1, fun k' i' => if k' = k ∧ i' = i then v else σ.2 k' i')
theorem gfl_int {G : gG} {σ : gS} {k : Int} : ∀ (fl : List (Option Int)) (j0 j : Nat), fl[j]? = some none → (gfl G σ k j0 fl)[j]? = some (vi (σ.1 k (j0 + j)))
  | [], _, _, h => by simp at h
  | none :: r, j0, 0, _ => rfl
  | some q :: r, j0, 0, h => by simp at h
  | none :: r, j0, j + 1, h => by
    show (gfl G σ k (j0 + 1) r)[j]? = _
    rw [gfl_int r (j0 + 1) j (by simpa using h), show j0 + 1 + j = j0 + (j + 1) by omega]
  | some q :: r, j0, j + 1, h => by
    show (gfl G σ k (j0 + 1) r)[j]? = _
    rw [gfl_int r (j0 + 1) j (by simpa using h), show j0 + 1 + j = j0 + (j + 1) by omega]
theorem gfl_ref {G : gG} {σ : gS} {k q : Int} : ∀ (fl : List (Option Int)) (j0 j : Nat), fl[j]? = some (some q) → (gfl G σ k j0 fl)[j]? = some (gR G q)
  | [], _, _, h => by simp at h
  | none :: r, j0, 0, h => by simp at h
  | some q' :: r, j0, 0, h => by
    have : q' = q := by simpa using h
    rw [this]; rfl
  | none :: r, j0, j + 1, h => gfl_ref r (j0 + 1) j (by simpa using h)
  | some q' :: r, j0, j + 1, h => gfl_ref r (j0 + 1) j (by simpa using h)
theorem gfl_len {G : gG} {σ : gS} {k : Int} : ∀ (fl : List (Option Int)) (j0 : Nat), (gfl G σ k j0 fl).length = fl.length
  | [], _ => rfl
  | none :: r, j0 => by show (gfl G σ k (j0 + 1) r).length + 1 = _; rw [gfl_len r]; rfl
  | some q :: r, j0 => by show (gfl G σ k (j0 + 1) r).length + 1 = _; rw [gfl_len r]; rfl
theorem gfl_ne {G : gG} {σ : gS} {k : Int} {v : Int} {x : Nat} : ∀ (fl : List (Option Int)) (j0 : Nat), x < j0 → gfl G (gpI σ k x v) k j0 fl = gfl G σ k j0 fl
  | [], _, _ => rfl
  | none :: r, j0, h => by
    show vi ((gpI σ k x v).1 k j0) :: gfl G (gpI σ k x v) k (j0 + 1) r = vi (σ.1 k j0) :: gfl G σ k (j0 + 1) r
    rw [gfl_ne r (j0 + 1) (by omega)]
    have : (gpI σ k x v).1 k j0 = σ.1 k j0 := if_neg (by omega)
    rw [this]
  | some q :: r, j0, h => by
    show gR G q :: gfl G (gpI σ k x v) k (j0 + 1) r = gR G q :: gfl G σ k (j0 + 1) r
    rw [gfl_ne r (j0 + 1) (by omega)]
theorem gfl_set {G : gG} {σ : gS} {k : Int} {v : Int} : ∀ (fl : List (Option Int)) (j0 j : Nat), fl[j]? = some none → (gfl G σ k j0 fl).set j (vi v) = gfl G (gpI σ k (j0 + j) v) k j0 fl
  | [], _, _, h => by simp at h
  | none :: r, j0, 0, _ => by
    show vi v :: gfl G σ k (j0 + 1) r = vi ((gpI σ k j0 v).1 k j0) :: gfl G (gpI σ k j0 v) k (j0 + 1) r
    rw [gfl_ne r (j0 + 1) (by omega)]
    have : (gpI σ k j0 v).1 k j0 = v := if_pos ⟨rfl, rfl⟩
    rw [this]
  | some q :: r, j0, 0, h => by simp at h
  | none :: r, j0, j + 1, h => by
    show vi (σ.1 k j0) :: (gfl G σ k (j0 + 1) r).set j (vi v) = vi ((gpI σ k (j0 + (j + 1)) v).1 k j0) :: gfl G (gpI σ k (j0 + (j + 1)) v) k (j0 + 1) r
    rw [gfl_set r (j0 + 1) j (by simpa using h), show j0 + 1 + j = j0 + (j + 1) by omega]
    have : (gpI σ k (j0 + (j + 1)) v).1 k j0 = σ.1 k j0 := if_neg (by omega)
    rw [this]
  | some q :: r, j0, j + 1, h => by
    show gR G q :: (gfl G σ k (j0 + 1) r).set j (vi v) = gR G q :: gfl G (gpI σ k (j0 + (j + 1)) v) k (j0 + 1) r
    rw [gfl_set r (j0 + 1) j (by simpa using h), show j0 + 1 + j = j0 + (j + 1) by omega]
theorem gfl_off {G : gG} {σ : gS} {k k' : Int} {v : Int} {x : Nat} (hk : k' ≠ k) : ∀ (fl : List (Option Int)) (j0 : Nat), gfl G (gpI σ k x v) k' j0 fl = gfl G σ k' j0 fl
  | [], _ => rfl
  | none :: r, j0 => by
    show vi ((gpI σ k x v).1 k' j0) :: gfl G (gpI σ k x v) k' (j0 + 1) r = vi (σ.1 k' j0) :: gfl G σ k' (j0 + 1) r
    rw [gfl_off hk r (j0 + 1)]
    have : (gpI σ k x v).1 k' j0 = σ.1 k' j0 := if_neg (fun h => hk h.1)
    rw [this]
  | some q :: r, j0 => by
    show gR G q :: gfl G (gpI σ k x v) k' (j0 + 1) r = gR G q :: gfl G σ k' (j0 + 1) r
    rw [gfl_off hk r (j0 + 1)]
theorem gfl_arr {G : gG} {σ : gS} {k k' : Int} {i v : Int} : ∀ (fl : List (Option Int)) (j0 : Nat), gfl G (gpA σ k i v) k' j0 fl = gfl G σ k' j0 fl
  | [], _ => rfl
  | none :: r, j0 => by
    show vi (σ.1 k' j0) :: gfl G (gpA σ k i v) k' (j0 + 1) r = vi (σ.1 k' j0) :: gfl G σ k' (j0 + 1) r
    rw [gfl_arr r (j0 + 1)]
  | some q :: r, j0 => by
    show gR G q :: gfl G (gpA σ k i v) k' (j0 + 1) r = gR G q :: gfl G σ k' (j0 + 1) r
    rw [gfl_arr r (j0 + 1)]
theorem gcont_I {G : gG} {σ : gS} {k k' : Int} {j : Nat} {v : Int} (hk : k' ≠ k) (sh : gSh) : gcont G (gpI σ k j v) k' sh = gcont G σ k' sh := by
  rcases sh with o | a | a
  · show Sum.inr (o.1, gfl G (gpI σ k j v) k' 0 o.2) = Sum.inr (o.1, gfl G σ k' 0 o.2)
    rw [gfl_off hk]
  · rfl
  · rfl
theorem gcont_A {G : gG} {σ : gS} {k k' : Int} {i v : Int} (hk : k' ≠ k) (sh : gSh) : gcont G (gpA σ k i v) k' sh = gcont G σ k' sh := by
  rcases sh with o | a | a
  · show Sum.inr (o.1, gfl G (gpA σ k i v) k' 0 o.2) = Sum.inr (o.1, gfl G σ k' 0 o.2)
    rw [gfl_arr]
  · show Sum.inl (_, _, Sum.inl (fun j : Nat => Int32.ofInt ((gpA σ k i v).2 k' (j : Int)))) = Sum.inl (_, _, Sum.inl (fun j : Nat => Int32.ofInt (σ.2 k' (j : Int))))
    have : (fun j : Nat => Int32.ofInt ((gpA σ k i v).2 k' (j : Int))) = (fun j : Nat => Int32.ofInt (σ.2 k' (j : Int))) := by
      funext j
      have : (gpA σ k i v).2 k' (j : Int) = σ.2 k' (j : Int) := if_neg (fun h => hk h.1)
      rw [this]
    rw [this]
  · rfl
theorem gW.upd {G : gG} {σ σ' : gS} {H H1 : Heap} {k : Int} {sh : gSh} (hW : gW G σ H) (hG : gInj G) (hs : gshape k = some sh) (hat : va_at (G.1, G.2.1) vwCl (G.2.2.1 k, gcont G σ' k sh) H1) (oq : ∀ q : Nat, q ≠ G.2.2.1 k → H1[q]? = H[q]?) (hc : ∀ (k' : Int) (sh' : gSh), k' ≠ k → gcont G σ' k' sh' = gcont G σ k' sh') : gW G σ' H1 := by
  intro k' sh' hs'
  by_cases hk : k' = k
  · subst hk
    cases hs.symm.trans hs'
    exact hat
  · rw [hc k' sh' hk]
    exact (hW k' sh' hs').kept (oq _ (fun h => hk (hG k' sh' k sh hs' hs h)))
/-! ===== the judgement ===== -/
abbrev gX : Type := Program × Launch × Env × Room × State × MethodId × Array Value × List Frame × Method × Code × Nat × Nat × (State → Prop) × (Nat → Prop)
def gWL (X : gX) (G : gG) (σ : gS) (pc : Nat) (loc : List (Nat × Value)) (st : List Value) : Prop := match X with
  | (p, l, e, R, s, m, args, below, meth, c, cells, slots, Q, A) => ∀ (H : Heap) (locs : List Loc) (ls : Array Slot), gW G σ H → va_S A s.heap H locs → lv_has ls c.maxLocals loc → W p l e R s m args below meth c H locs cells slots Q (F0 m pc ls st)
def gOk (X : gX) (G : gG) (cc : ByteArray) (nL : Nat) (own : String) (ret : Option FieldType) (lv : Nat) : Prop := match X with
  | (p, l, e, R, s, m, args, below, meth, c, cells, slots, Q, A) => p.tables.exec = Jvm.exec ∧ c.code = cc ∧ c.maxLocals = nL ∧ meth.sig.returnType = ret ∧ s.vm.findClass own = some m.cls ∧ (∀ w ∈ gAll, w.before args s = true) ∧ gK G s ∧ gInj G ∧ meth.locks = false ∧ (lv ≤ R.frames ∧ 40 * lv ≤ R.locals ∧ cells ≤ R.cells ∧ slots ≤ R.slots) ∧ (∀ q, gA G q → A q)
def gQ (G : gG) (P : Option Value → gS → Prop) : Array Value → State → Outcome → State → Prop := fun _ st oc t => (∃ (r : Option Value) (σ' : gS), oc = .returned r ∧ P r σ' ∧ gW G σ' t.heap) ∧ va_F (gA G) st t
def gEnd (X : gX) (G : gG) (P : Option Value → gS → Prop) : Prop := match X with
  | (p, l, e, R, s, m, args, below, meth, c, cells, slots, Q, A) => Q = MQ below (gQ G P) args s cells slots (gA G) ∧ A = gA G
def gPi (Q : Int → gS → Prop) : Option Value → gS → Prop := fun r σ => ∃ v : Int, r = some (vi v) ∧ Q v σ
def gPv (Q : gS → Prop) : Option Value → gS → Prop := fun r σ => r = none ∧ Q σ
def rmL (n : Nat) : Room := { frames := n, cells := 0, slots := 0, locals := 40 * n }
def gMet (l : Launch) (G : gG) (y : MethodName) (bytes : ByteArray) (nL : Nat) (ret : Option FieldType) (lv : Nat) (av : List Value) (σ : gS) (P : Option Value → gS → Prop) : Prop :=
  Met l y (Cond.code y bytes nL ret :: gAll) (rmL lv) (va_Pc av (fun U => gW G σ U.heap ∧ gK G U)) (gQ G P) 0 0 (gA G)
theorem gMet_of {l : Launch} {G : gG} {y : MethodName} {bytes : ByteArray} {nL : Nat} {ret : Option FieldType} {lv : Nat} {av : List Value} {σ : gS} {P : Option Value → gS → Prop} (hy : plainFor y = true) (hG : gInj G) (hlen : (lg_sl av).length ≤ nL)
    (body : ∀ X : gX, gOk X G bytes nL y.cls ret lv → gEnd X G P → gWL X G σ 0 (lv_args 0 av) []) : gMet l G y bytes nL ret lv av σ P := by
  unfold gMet Met
  refine MetFree.of_bodySF (code := bytes) (maxLocals := nL) (ret := ret) hy ?_ ?_
  · intro args s m h hn
    obtain ⟨meth, c, h1, h2, h3, h4, h5, h6, -, -⟩ := Cond.code_spec hn (atoms_spec (ws := Cond.code y bytes nL ret :: gAll) h _ List.mem_cons_self)
    exact ⟨meth, c, h1, h2, h3, h4, h5, h6⟩
  · intro p e s m args below meth c s₁ B hml hv _
    have hh0 : s₁.heap = s.heap := by rw [B.state]; rfl
    obtain ⟨rfl, hW, hK⟩ := hv
    have hl := lv_entry av (n := nL) hlen
    rw [lg_entry_eq]
    obtain ⟨t, a1, o, b1, b2, b3⟩ := body (p, l, e, _, s, m, _, below, meth, c, 0, 0, _, gA G) ⟨B.exec, B.bytes, hml, B.returns, findClass_of_methodNamed B.named, fun w hw => atoms_spec (ws := Cond.code y bytes nL ret :: gAll) B.pre w (List.mem_cons_of_mem _ hw), hK, hG, B.notSynchronized, ⟨Nat.le_refl _, Nat.le_refl _, Nat.zero_le _, Nat.zero_le _⟩, fun q h => h⟩ ⟨rfl, rfl⟩ s.heap [] _ hW va_S.rf (by rw [hml]; exact hl) s₁ hh0 (Stand.of_body B)
    exact ⟨t, o, a1, b1, b2, b3⟩
section GROWS
variable {X : gX} {G : gG} {σ : gS} {pc : Nat} {loc : List (Nat × Value)} {st : List Value} {cc : ByteArray} {nL : Nat} {own : String} {ret : Option FieldType} {lv : Nat}
theorem g_sub {loc' : List (Nat × Value)} (ks : List Nat) (h : lv_pick loc ks = loc') (k : gWL X G σ pc loc' st) : gWL X G σ pc loc st := by
  obtain ⟨p, l, e, R, s, m, args, below, meth, c, cells, slots, Q, A⟩ := X
  intro H locs ls hW hS hl
  exact k H locs ls hW hS (lv_sub hl ks h)

theorem g_iconst (hX : gOk X G cc nL own ret lv) {n : Int} (hd : decode cc pc = .ok (.iconst n, 1)) (k : gWL X G σ (pc + 1) loc (vi n :: st)) : gWL X G σ pc loc st := by
  obtain ⟨p, l, e, R, s, m, args, below, meth, c, cells, slots, Q, A⟩ := X
  obtain ⟨hx, hb, hml, hr, hown, hts, hK, hG, hlk, hrm, hA⟩ := hX
  intro H locs ls hW hS hl
  exact lv_iconst hx hb hd rfl (k H locs ls hW hS hl)

theorem g_bipush (hX : gOk X G cc nL own ret lv) {n : Int} (hd : decode cc pc = .ok (.bipush n, 2)) (hv : (Int8.ofInt n).toInt32 = Int32.ofInt n) (k : gWL X G σ (pc + 2) loc (vi n :: st)) : gWL X G σ pc loc st := by
  obtain ⟨p, l, e, R, s, m, args, below, meth, c, cells, slots, Q, A⟩ := X
  obtain ⟨hx, hb, hml, hr, hown, hts, hK, hG, hlk, hrm, hA⟩ := hX
  intro H locs ls hW hS hl
  exact lv_bipush hx hb hd hv (k H locs ls hW hS hl)

theorem g_sipush (hX : gOk X G cc nL own ret lv) {n : Int} (hd : decode cc pc = .ok (.sipush n, 3)) (hv : (Int16.ofInt n).toInt32 = Int32.ofInt n) (k : gWL X G σ (pc + 3) loc (vi n :: st)) : gWL X G σ pc loc st := by
  obtain ⟨p, l, e, R, s, m, args, below, meth, c, cells, slots, Q, A⟩ := X
  obtain ⟨hx, hb, hml, hr, hown, hts, hK, hG, hlk, hrm, hA⟩ := hX
  intro H locs ls hW hS hl
  exact lv_sipush hx hb hd hv (k H locs ls hW hS hl)

theorem g_ldc (hX : gOk X G cc nL own ret lv) {n : Int} {index : Nat} {v : Int32} (hw : Cond.constant own index v ∈ gAll) (hd : decode cc pc = .ok (.ldc index, 2)) (hv : v = Int32.ofInt n) (k : gWL X G σ (pc + 2) loc (vi n :: st)) : gWL X G σ pc loc st := by
  obtain ⟨p, l, e, R, s, m, args, below, meth, c, cells, slots, Q, A⟩ := X
  obtain ⟨hx, hb, hml, hr, hown, hts, hK, hG, hlk, hrm, hA⟩ := hX
  intro H locs ls hW hS hl
  subst hv
  exact lv_ldc hx hb hown (hts _ hw) hd (k H locs ls hW hS hl)

theorem g_ldcw (hX : gOk X G cc nL own ret lv) {n : Int} {index : Nat} {v : Int32} (hw : Cond.constant own index v ∈ gAll) (hd : decode cc pc = .ok (.ldc_w index, 3)) (hv : v = Int32.ofInt n) (k : gWL X G σ (pc + 3) loc (vi n :: st)) : gWL X G σ pc loc st := by
  obtain ⟨p, l, e, R, s, m, args, below, meth, c, cells, slots, Q, A⟩ := X
  obtain ⟨hx, hb, hml, hr, hown, hts, hK, hG, hlk, hrm, hA⟩ := hX
  intro H locs ls hW hS hl
  subst hv
  exact lv_ldcw hx hb hown (hts _ hw) hd (k H locs ls hW hS hl)

theorem g_ldc2 (hX : gOk X G cc nL own ret lv) {index : Nat} {v : Int64} (hw : Cond.constantLong own index v ∈ gAll) (hd : decode cc pc = .ok (.ldc2_w index, 3)) (k : gWL X G σ (pc + 3) loc (.long v :: st)) : gWL X G σ pc loc st := by
  obtain ⟨p, l, e, R, s, m, args, below, meth, c, cells, slots, Q, A⟩ := X
  obtain ⟨hx, hb, hml, hr, hown, hts, hK, hG, hlk, hrm, hA⟩ := hX
  intro H locs ls hW hS hl
  exact lv_ldc2 hx hb hown (hts _ hw) hd (k H locs ls hW hS hl)

theorem g_iload_n (hX : gOk X G cc nL own ret lv) {f : Fin 4} {x : Int} (hd : decode cc pc = .ok (.iload_n f, 1)) (i : Nat) (hi : loc[i]? = some ((f : Nat), vi x)) (k : gWL X G σ (pc + 1) loc (vi x :: st)) : gWL X G σ pc loc st := by
  obtain ⟨p, l, e, R, s, m, args, below, meth, c, cells, slots, Q, A⟩ := X
  obtain ⟨hx, hb, hml, hr, hown, hts, hK, hG, hlk, hrm, hA⟩ := hX
  intro H locs ls hW hS hl
  exact lv_iload_n hx hb hd rfl (lv_at hl i hi) (k H locs ls hW hS hl)

theorem g_iload (hX : gOk X G cc nL own ret lv) {f : Nat} {x : Int} (hd : decode cc pc = .ok (.iload f, 2)) (i : Nat) (hi : loc[i]? = some (f, vi x)) (k : gWL X G σ (pc + 2) loc (vi x :: st)) : gWL X G σ pc loc st := by
  obtain ⟨p, l, e, R, s, m, args, below, meth, c, cells, slots, Q, A⟩ := X
  obtain ⟨hx, hb, hml, hr, hown, hts, hK, hG, hlk, hrm, hA⟩ := hX
  intro H locs ls hW hS hl
  exact lv_iload hx hb hd (lv_at hl i hi) (k H locs ls hW hS hl)

theorem g_aload_n (hX : gOk X G cc nL own ret lv) {f : Fin 4} {x : Int} (hd : decode cc pc = .ok (.aload_n f, 1)) (i : Nat) (hi : loc[i]? = some ((f : Nat), gR G x)) (k : gWL X G σ (pc + 1) loc (gR G x :: st)) : gWL X G σ pc loc st := by
  obtain ⟨p, l, e, R, s, m, args, below, meth, c, cells, slots, Q, A⟩ := X
  obtain ⟨hx, hb, hml, hr, hown, hts, hK, hG, hlk, hrm, hA⟩ := hX
  intro H locs ls hW hS hl
  exact lv_aload_n hx hb hd rfl (lv_at hl i hi) (k H locs ls hW hS hl)

theorem g_aload (hX : gOk X G cc nL own ret lv) {f : Nat} {x : Int} (hd : decode cc pc = .ok (.aload f, 2)) (i : Nat) (hi : loc[i]? = some (f, gR G x)) (k : gWL X G σ (pc + 2) loc (gR G x :: st)) : gWL X G σ pc loc st := by
  obtain ⟨p, l, e, R, s, m, args, below, meth, c, cells, slots, Q, A⟩ := X
  obtain ⟨hx, hb, hml, hr, hown, hts, hK, hG, hlk, hrm, hA⟩ := hX
  intro H locs ls hW hS hl
  exact lv_aload hx hb hd (lv_at hl i hi) (k H locs ls hW hS hl)

theorem g_lload_n (hX : gOk X G cc nL own ret lv) {f : Fin 4} {x : Int64} (hd : decode cc pc = .ok (.lload_n f, 1)) (i : Nat) (hi : loc[i]? = some ((f : Nat), .long x)) (k : gWL X G σ (pc + 1) loc (.long x :: st)) : gWL X G σ pc loc st := by
  obtain ⟨p, l, e, R, s, m, args, below, meth, c, cells, slots, Q, A⟩ := X
  obtain ⟨hx, hb, hml, hr, hown, hts, hK, hG, hlk, hrm, hA⟩ := hX
  intro H locs ls hW hS hl
  exact lv_lload_n hx hb hd rfl (lv_at hl i hi) (k H locs ls hW hS hl)

theorem g_lload (hX : gOk X G cc nL own ret lv) {f : Nat} {x : Int64} (hd : decode cc pc = .ok (.lload f, 2)) (i : Nat) (hi : loc[i]? = some (f, .long x)) (k : gWL X G σ (pc + 2) loc (.long x :: st)) : gWL X G σ pc loc st := by
  obtain ⟨p, l, e, R, s, m, args, below, meth, c, cells, slots, Q, A⟩ := X
  obtain ⟨hx, hb, hml, hr, hown, hts, hK, hG, hlk, hrm, hA⟩ := hX
  intro H locs ls hW hS hl
  exact lv_lload hx hb hd (lv_at hl i hi) (k H locs ls hW hS hl)

theorem g_istore_n (hX : gOk X G cc nL own ret lv) {f : Fin 4} {x : Int} {loc' : List (Nat × Value)} (hd : decode cc pc = .ok (.istore_n f, 1)) (hn : (f : Nat) < nL) (hl' : ((f : Nat), vi x) :: loc.filter (fun q => !(q.1 == (f : Nat)) && !(q.1 + 1 == (f : Nat) && q.2.category == 2)) = loc') (k : gWL X G σ (pc + 1) loc' (st)) : gWL X G σ pc loc (vi x :: st) := by
  obtain ⟨p, l, e, R, s, m, args, below, meth, c, cells, slots, Q, A⟩ := X
  obtain ⟨hx, hb, hml, hr, hown, hts, hK, hG, hlk, hrm, hA⟩ := hX
  intro H locs ls hW hS hl
  exact lv_istore_n hx hb hd rfl hl (by rw [hml]; exact hn) hl' (fun ls hl => k H locs ls hW hS hl)

theorem g_istore (hX : gOk X G cc nL own ret lv) {f : Nat} {x : Int} {loc' : List (Nat × Value)} (hd : decode cc pc = .ok (.istore f, 2)) (hn : f < nL) (hl' : (f, vi x) :: loc.filter (fun q => !(q.1 == f) && !(q.1 + 1 == f && q.2.category == 2)) = loc') (k : gWL X G σ (pc + 2) loc' (st)) : gWL X G σ pc loc (vi x :: st) := by
  obtain ⟨p, l, e, R, s, m, args, below, meth, c, cells, slots, Q, A⟩ := X
  obtain ⟨hx, hb, hml, hr, hown, hts, hK, hG, hlk, hrm, hA⟩ := hX
  intro H locs ls hW hS hl
  exact lv_istore hx hb hd hl (by rw [hml]; exact hn) hl' (fun ls hl => k H locs ls hW hS hl)

theorem g_astore_n (hX : gOk X G cc nL own ret lv) {f : Fin 4} {x : Int} {loc' : List (Nat × Value)} (hd : decode cc pc = .ok (.astore_n f, 1)) (hn : (f : Nat) < nL) (hl' : ((f : Nat), gR G x) :: loc.filter (fun q => !(q.1 == (f : Nat)) && !(q.1 + 1 == (f : Nat) && q.2.category == 2)) = loc') (k : gWL X G σ (pc + 1) loc' (st)) : gWL X G σ pc loc (gR G x :: st) := by
  obtain ⟨p, l, e, R, s, m, args, below, meth, c, cells, slots, Q, A⟩ := X
  obtain ⟨hx, hb, hml, hr, hown, hts, hK, hG, hlk, hrm, hA⟩ := hX
  intro H locs ls hW hS hl
  exact lv_astore_n hx hb hd rfl hl (by rw [hml]; exact hn) hl' (fun ls hl => k H locs ls hW hS hl)

theorem g_astore (hX : gOk X G cc nL own ret lv) {f : Nat} {x : Int} {loc' : List (Nat × Value)} (hd : decode cc pc = .ok (.astore f, 2)) (hn : f < nL) (hl' : (f, gR G x) :: loc.filter (fun q => !(q.1 == f) && !(q.1 + 1 == f && q.2.category == 2)) = loc') (k : gWL X G σ (pc + 2) loc' (st)) : gWL X G σ pc loc (gR G x :: st) := by
  obtain ⟨p, l, e, R, s, m, args, below, meth, c, cells, slots, Q, A⟩ := X
  obtain ⟨hx, hb, hml, hr, hown, hts, hK, hG, hlk, hrm, hA⟩ := hX
  intro H locs ls hW hS hl
  exact lv_astore hx hb hd hl (by rw [hml]; exact hn) hl' (fun ls hl => k H locs ls hW hS hl)

theorem g_iinc (hX : gOk X G cc nL own ret lv) {f : Nat} {n x : Int} {loc' : List (Nat × Value)} (hd : decode cc pc = .ok (.iinc f n, 3)) (i : Nat) (hi : loc[i]? = some (f, vi x)) (hn : f < nL) (hl' : (f, vi (x + n)) :: loc.filter (fun q => !(q.1 == f) && !(q.1 + 1 == f && q.2.category == 2)) = loc') (k : gWL X G σ (pc + 3) loc' (st)) : gWL X G σ pc loc st := by
  obtain ⟨p, l, e, R, s, m, args, below, meth, c, cells, slots, Q, A⟩ := X
  obtain ⟨hx, hb, hml, hr, hown, hts, hK, hG, hlk, hrm, hA⟩ := hX
  intro H locs ls hW hS hl
  exact lv_iinc (v := Int32.ofInt (x + n)) hx hb hd hl hi (by rw [Int32.ofInt_add]) (by rw [hml]; exact hn) hl' (fun ls hl => k H locs ls hW hS hl)

theorem g_iadd (hX : gOk X G cc nL own ret lv) {a b : Int} (hd : decode cc pc = .ok (.iadd, 1)) (k : gWL X G σ (pc + 1) loc (vi (a + b) :: st)) : gWL X G σ pc loc (vi b :: vi a :: st) := by
  obtain ⟨p, l, e, R, s, m, args, below, meth, c, cells, slots, Q, A⟩ := X
  obtain ⟨hx, hb, hml, hr, hown, hts, hK, hG, hlk, hrm, hA⟩ := hX
  intro H locs ls hW hS hl
  have h := k H locs ls hW hS hl
  unfold vi at h
  rw [Int32.ofInt_add] at h
  exact lv_iadd hx hb hd h

theorem g_isub (hX : gOk X G cc nL own ret lv) {a b : Int} (hd : decode cc pc = .ok (.isub, 1)) (k : gWL X G σ (pc + 1) loc (vi (a - b) :: st)) : gWL X G σ pc loc (vi b :: vi a :: st) := by
  obtain ⟨p, l, e, R, s, m, args, below, meth, c, cells, slots, Q, A⟩ := X
  obtain ⟨hx, hb, hml, hr, hown, hts, hK, hG, hlk, hrm, hA⟩ := hX
  intro H locs ls hW hS hl
  have h := k H locs ls hW hS hl
  unfold vi at h
  rw [Int32.ofInt_sub] at h
  exact lv_isub hx hb hd h

theorem g_imul (hX : gOk X G cc nL own ret lv) {a b : Int} (hd : decode cc pc = .ok (.imul, 1)) (k : gWL X G σ (pc + 1) loc (vi (a * b) :: st)) : gWL X G σ pc loc (vi b :: vi a :: st) := by
  obtain ⟨p, l, e, R, s, m, args, below, meth, c, cells, slots, Q, A⟩ := X
  obtain ⟨hx, hb, hml, hr, hown, hts, hK, hG, hlk, hrm, hA⟩ := hX
  intro H locs ls hW hS hl
  have h := k H locs ls hW hS hl
  unfold vi at h
  rw [Int32.ofInt_mul] at h
  exact lv_imul hx hb hd h

theorem g_ineg (hX : gOk X G cc nL own ret lv) {a : Int} (hd : decode cc pc = .ok (.ineg, 1)) (k : gWL X G σ (pc + 1) loc (vi (-a) :: st)) : gWL X G σ pc loc (vi a :: st) := by
  obtain ⟨p, l, e, R, s, m, args, below, meth, c, cells, slots, Q, A⟩ := X
  obtain ⟨hx, hb, hml, hr, hown, hts, hK, hG, hlk, hrm, hA⟩ := hX
  intro H locs ls hW hS hl
  have h := k H locs ls hW hS hl
  unfold vi at h
  rw [Int32.ofInt_neg] at h
  exact lv_ineg hx hb hd h

theorem g_iand (hX : gOk X G cc nL own ret lv) {a b : Int} (hd : decode cc pc = .ok (.iand, 1)) (k : gWL X G σ (pc + 1) loc (vi (gand a b) :: st)) : gWL X G σ pc loc (vi b :: vi a :: st) := by
  obtain ⟨p, l, e, R, s, m, args, below, meth, c, cells, slots, Q, A⟩ := X
  obtain ⟨hx, hb, hml, hr, hown, hts, hK, hG, hlk, hrm, hA⟩ := hX
  intro H locs ls hW hS hl
  have h := k H locs ls hW hS hl
  unfold gand at h
  rw [vi_back] at h
  exact lv_iand hx hb hd h

theorem g_ior (hX : gOk X G cc nL own ret lv) {a b : Int} (hd : decode cc pc = .ok (.ior, 1)) (k : gWL X G σ (pc + 1) loc (vi (gor a b) :: st)) : gWL X G σ pc loc (vi b :: vi a :: st) := by
  obtain ⟨p, l, e, R, s, m, args, below, meth, c, cells, slots, Q, A⟩ := X
  obtain ⟨hx, hb, hml, hr, hown, hts, hK, hG, hlk, hrm, hA⟩ := hX
  intro H locs ls hW hS hl
  have h := k H locs ls hW hS hl
  unfold gor at h
  rw [vi_back] at h
  exact lv_ior hx hb hd h

theorem g_ixor (hX : gOk X G cc nL own ret lv) {a b : Int} (hd : decode cc pc = .ok (.ixor, 1)) (k : gWL X G σ (pc + 1) loc (vi (gxor a b) :: st)) : gWL X G σ pc loc (vi b :: vi a :: st) := by
  obtain ⟨p, l, e, R, s, m, args, below, meth, c, cells, slots, Q, A⟩ := X
  obtain ⟨hx, hb, hml, hr, hown, hts, hK, hG, hlk, hrm, hA⟩ := hX
  intro H locs ls hW hS hl
  have h := k H locs ls hW hS hl
  unfold gxor at h
  rw [vi_back] at h
  exact lv_ixor hx hb hd h

theorem g_ishl (hX : gOk X G cc nL own ret lv) {a b : Int} (hd : decode cc pc = .ok (.ishl, 1)) (k : gWL X G σ (pc + 1) loc (vi (gshl a b) :: st)) : gWL X G σ pc loc (vi b :: vi a :: st) := by
  obtain ⟨p, l, e, R, s, m, args, below, meth, c, cells, slots, Q, A⟩ := X
  obtain ⟨hx, hb, hml, hr, hown, hts, hK, hG, hlk, hrm, hA⟩ := hX
  intro H locs ls hW hS hl
  have h := k H locs ls hW hS hl
  unfold gshl at h
  rw [vi_back] at h
  exact lv_ishl hx hb hd h

theorem g_ishr (hX : gOk X G cc nL own ret lv) {a b : Int} (hd : decode cc pc = .ok (.ishr, 1)) (k : gWL X G σ (pc + 1) loc (vi (gshr a b) :: st)) : gWL X G σ pc loc (vi b :: vi a :: st) := by
  obtain ⟨p, l, e, R, s, m, args, below, meth, c, cells, slots, Q, A⟩ := X
  obtain ⟨hx, hb, hml, hr, hown, hts, hK, hG, hlk, hrm, hA⟩ := hX
  intro H locs ls hW hS hl
  have h := k H locs ls hW hS hl
  unfold gshr at h
  rw [vi_back] at h
  exact lv_ishr hx hb hd h

theorem g_iushr (hX : gOk X G cc nL own ret lv) {a b : Int} (hd : decode cc pc = .ok (.iushr, 1)) (k : gWL X G σ (pc + 1) loc (vi (gushr a b) :: st)) : gWL X G σ pc loc (vi b :: vi a :: st) := by
  obtain ⟨p, l, e, R, s, m, args, below, meth, c, cells, slots, Q, A⟩ := X
  obtain ⟨hx, hb, hml, hr, hown, hts, hK, hG, hlk, hrm, hA⟩ := hX
  intro H locs ls hW hS hl
  have h := k H locs ls hW hS hl
  unfold gushr at h
  rw [vi_back] at h
  exact lv_iushr hx hb hd rfl h

theorem g_idiv (hX : gOk X G cc nL own ret lv) {a b : Int} (ha : rng a) (hbr : rng b) (h0 : 0 < b) (hd : decode cc pc = .ok (.idiv, 1)) (k : gWL X G σ (pc + 1) loc (vi (a.tdiv b) :: st)) : gWL X G σ pc loc (vi b :: vi a :: st) := by
  obtain ⟨p, l, e, R, s, m, args, below, meth, c, cells, slots, Q, A⟩ := X
  obtain ⟨hx, hb, hml, hr, hown, hts, hK, hG, hlk, hrm, hA⟩ := hX
  intro H locs ls hW hS hl
  have h := k H locs ls hW hS hl
  refine lv_idiv hx hb hd (fun e => ?_) ?_
  · rw [gI_0, gI_eq hbr rng_0] at e
    omega
  · have e : Int32.ofInt (a.tdiv b) = Int32.ofInt a / Int32.ofInt b := Int32.ofInt_tdiv ha.1 ha.2 hbr.1 hbr.2
    unfold vi at h
    rw [e] at h
    exact h

theorem g_irem (hX : gOk X G cc nL own ret lv) {a b : Int} (ha : rng a) (hbr : rng b) (h0 : 0 < b) (hd : decode cc pc = .ok (.irem, 1)) (k : gWL X G σ (pc + 1) loc (vi (a.tmod b) :: st)) : gWL X G σ pc loc (vi b :: vi a :: st) := by
  obtain ⟨p, l, e, R, s, m, args, below, meth, c, cells, slots, Q, A⟩ := X
  obtain ⟨hx, hb, hml, hr, hown, hts, hK, hG, hlk, hrm, hA⟩ := hX
  intro H locs ls hW hS hl
  have h := k H locs ls hW hS hl
  refine lv_irem hx hb hd (fun e => ?_) ?_
  · rw [gI_0, gI_eq hbr rng_0] at e
    omega
  · have e : Int32.ofInt (a.tmod b) = Int32.ofInt a - Int32.ofInt a / Int32.ofInt b * Int32.ofInt b := by
      have e1 : Int32.ofInt (a.tdiv b) = Int32.ofInt a / Int32.ofInt b := Int32.ofInt_tdiv ha.1 ha.2 hbr.1 hbr.2
      rw [← e1, ← Int32.ofInt_mul, ← Int32.ofInt_sub, Int.tmod_def, Int.mul_comm]
    unfold vi at h
    rw [e] at h
    exact h

theorem g_i2l (hX : gOk X G cc nL own ret lv) {a : Int} (hd : decode cc pc = .ok (.i2l, 1)) (k : gWL X G σ (pc + 1) loc (.long (gi2l a) :: st)) : gWL X G σ pc loc (vi a :: st) := by
  obtain ⟨p, l, e, R, s, m, args, below, meth, c, cells, slots, Q, A⟩ := X
  obtain ⟨hx, hb, hml, hr, hown, hts, hK, hG, hlk, hrm, hA⟩ := hX
  intro H locs ls hW hS hl
  exact lv_i2l hx hb hd rfl (k H locs ls hW hS hl)

theorem g_l2i (hX : gOk X G cc nL own ret lv) {a : Int64} (hd : decode cc pc = .ok (.l2i, 1)) (k : gWL X G σ (pc + 1) loc (vi (gl2i a) :: st)) : gWL X G σ pc loc (.long a :: st) := by
  obtain ⟨p, l, e, R, s, m, args, below, meth, c, cells, slots, Q, A⟩ := X
  obtain ⟨hx, hb, hml, hr, hown, hts, hK, hG, hlk, hrm, hA⟩ := hX
  intro H locs ls hW hS hl
  have h := k H locs ls hW hS hl
  unfold gl2i at h
  rw [vi_back] at h
  exact lv_l2i hx hb hd rfl h

theorem g_land (hX : gOk X G cc nL own ret lv) {a b : Int64} (hd : decode cc pc = .ok (.land, 1)) (k : gWL X G σ (pc + 1) loc (.long (a &&& b) :: st)) : gWL X G σ pc loc (.long b :: .long a :: st) := by
  obtain ⟨p, l, e, R, s, m, args, below, meth, c, cells, slots, Q, A⟩ := X
  obtain ⟨hx, hb, hml, hr, hown, hts, hK, hG, hlk, hrm, hA⟩ := hX
  intro H locs ls hW hS hl
  exact lv_land hx hb hd (k H locs ls hW hS hl)

theorem g_lor (hX : gOk X G cc nL own ret lv) {a b : Int64} (hd : decode cc pc = .ok (.lor, 1)) (k : gWL X G σ (pc + 1) loc (.long (a ||| b) :: st)) : gWL X G σ pc loc (.long b :: .long a :: st) := by
  obtain ⟨p, l, e, R, s, m, args, below, meth, c, cells, slots, Q, A⟩ := X
  obtain ⟨hx, hb, hml, hr, hown, hts, hK, hG, hlk, hrm, hA⟩ := hX
  intro H locs ls hW hS hl
  exact lv_lor hx hb hd (k H locs ls hW hS hl)

theorem g_lshl (hX : gOk X G cc nL own ret lv) {a : Int64} {b : Int} (hd : decode cc pc = .ok (.lshl, 1)) (k : gWL X G σ (pc + 1) loc (.long (glshl a b) :: st)) : gWL X G σ pc loc (vi b :: .long a :: st) := by
  obtain ⟨p, l, e, R, s, m, args, below, meth, c, cells, slots, Q, A⟩ := X
  obtain ⟨hx, hb, hml, hr, hown, hts, hK, hG, hlk, hrm, hA⟩ := hX
  intro H locs ls hW hS hl
  exact lv_lshl hx hb hd rfl (k H locs ls hW hS hl)

theorem g_lshr (hX : gOk X G cc nL own ret lv) {a : Int64} {b : Int} (hd : decode cc pc = .ok (.lshr, 1)) (k : gWL X G σ (pc + 1) loc (.long (glshr a b) :: st)) : gWL X G σ pc loc (vi b :: .long a :: st) := by
  obtain ⟨p, l, e, R, s, m, args, below, meth, c, cells, slots, Q, A⟩ := X
  obtain ⟨hx, hb, hml, hr, hown, hts, hK, hG, hlk, hrm, hA⟩ := hX
  intro H locs ls hW hS hl
  exact lv_lshr hx hb hd rfl (k H locs ls hW hS hl)

theorem g_lushr (hX : gOk X G cc nL own ret lv) {a : Int64} {b : Int} (hd : decode cc pc = .ok (.lushr, 1)) (k : gWL X G σ (pc + 1) loc (.long (glushr a b) :: st)) : gWL X G σ pc loc (vi b :: .long a :: st) := by
  obtain ⟨p, l, e, R, s, m, args, below, meth, c, cells, slots, Q, A⟩ := X
  obtain ⟨hx, hb, hml, hr, hown, hts, hK, hG, hlk, hrm, hA⟩ := hX
  intro H locs ls hW hS hl
  exact lv_lushr hx hb hd rfl (k H locs ls hW hS hl)

theorem g_dup (hX : gOk X G cc nL own ret lv) {v : Value} (hv : v.category = 1) (hd : decode cc pc = .ok (.dup, 1)) (k : gWL X G σ (pc + 1) loc (v :: v :: st)) : gWL X G σ pc loc (v :: st) := by
  obtain ⟨p, l, e, R, s, m, args, below, meth, c, cells, slots, Q, A⟩ := X
  obtain ⟨hx, hb, hml, hr, hown, hts, hK, hG, hlk, hrm, hA⟩ := hX
  intro H locs ls hW hS hl
  exact lv_dup hx hb hd hv (k H locs ls hW hS hl)

theorem g_dup2 (hX : gOk X G cc nL own ret lv) {v w : Value} (hv : v.category = 1) (hw : w.category = 1) (hd : decode cc pc = .ok (.dup2, 1)) (k : gWL X G σ (pc + 1) loc (v :: w :: v :: w :: st)) : gWL X G σ pc loc (v :: w :: st) := by
  obtain ⟨p, l, e, R, s, m, args, below, meth, c, cells, slots, Q, A⟩ := X
  obtain ⟨hx, hb, hml, hr, hown, hts, hK, hG, hlk, hrm, hA⟩ := hX
  intro H locs ls hW hS hl
  exact lv_dup2_11 hx hb hd hv hw (k H locs ls hW hS hl)

theorem g_pop (hX : gOk X G cc nL own ret lv) {v : Value} (hv : v.category = 1) (hd : decode cc pc = .ok (.pop, 1)) (k : gWL X G σ (pc + 1) loc (st)) : gWL X G σ pc loc (v :: st) := by
  obtain ⟨p, l, e, R, s, m, args, below, meth, c, cells, slots, Q, A⟩ := X
  obtain ⟨hx, hb, hml, hr, hown, hts, hK, hG, hlk, hrm, hA⟩ := hX
  intro H locs ls hW hS hl
  exact lv_pop hx hb hd hv (k H locs ls hW hS hl)

theorem g_ifeq (hX : gOk X G cc nL own ret lv) {a : Int} {off : Int} {tgt : Nat} (ha : rng a) (hd : decode cc pc = .ok (.ifCond .eq off, 3)) (ht : (pc : Int) + off = (tgt : Int)) (kt : a = 0 → gWL X G σ tgt loc st) (kf : ¬ (a = 0) → gWL X G σ (pc + 3) loc st) : gWL X G σ pc loc (vi a :: st) := by
  obtain ⟨p, l, e, R, s, m, args, below, meth, c, cells, slots, Q, A⟩ := X
  obtain ⟨hx, hb, hml, hr, hown, hts, hK, hG, hlk, hrm, hA⟩ := hX
  intro H locs ls hW hS hl
  exact lv_if_eq hx hb hd ht (fun h => kt ((gI_eq ha rng_0).mp h) H locs ls hW hS hl) (fun h => kf (fun z => h ((gI_eq ha rng_0).mpr z)) H locs ls hW hS hl)

theorem g_ifne (hX : gOk X G cc nL own ret lv) {a : Int} {off : Int} {tgt : Nat} (ha : rng a) (hd : decode cc pc = .ok (.ifCond .ne off, 3)) (ht : (pc : Int) + off = (tgt : Int)) (kt : ¬ a = 0 → gWL X G σ tgt loc st) (kf : ¬ (¬ a = 0) → gWL X G σ (pc + 3) loc st) : gWL X G σ pc loc (vi a :: st) := by
  obtain ⟨p, l, e, R, s, m, args, below, meth, c, cells, slots, Q, A⟩ := X
  obtain ⟨hx, hb, hml, hr, hown, hts, hK, hG, hlk, hrm, hA⟩ := hX
  intro H locs ls hW hS hl
  exact lv_if_ne hx hb hd ht (fun h => kt (fun z => h ((gI_eq ha rng_0).mpr z)) H locs ls hW hS hl) (fun h => kf (fun z => z ((gI_eq ha rng_0).mp h)) H locs ls hW hS hl)

theorem g_iflt (hX : gOk X G cc nL own ret lv) {a : Int} {off : Int} {tgt : Nat} (ha : rng a) (hd : decode cc pc = .ok (.ifCond .lt off, 3)) (ht : (pc : Int) + off = (tgt : Int)) (kt : a < 0 → gWL X G σ tgt loc st) (kf : ¬ (a < 0) → gWL X G σ (pc + 3) loc st) : gWL X G σ pc loc (vi a :: st) := by
  obtain ⟨p, l, e, R, s, m, args, below, meth, c, cells, slots, Q, A⟩ := X
  obtain ⟨hx, hb, hml, hr, hown, hts, hK, hG, hlk, hrm, hA⟩ := hX
  intro H locs ls hW hS hl
  exact lv_if_lt hx hb hd ht (fun h => kt ((gI_lt ha rng_0).mp h) H locs ls hW hS hl) (fun h => kf (fun z => h ((gI_lt ha rng_0).mpr z)) H locs ls hW hS hl)

theorem g_ifge (hX : gOk X G cc nL own ret lv) {a : Int} {off : Int} {tgt : Nat} (ha : rng a) (hd : decode cc pc = .ok (.ifCond .ge off, 3)) (ht : (pc : Int) + off = (tgt : Int)) (kt : 0 ≤ a → gWL X G σ tgt loc st) (kf : ¬ (0 ≤ a) → gWL X G σ (pc + 3) loc st) : gWL X G σ pc loc (vi a :: st) := by
  obtain ⟨p, l, e, R, s, m, args, below, meth, c, cells, slots, Q, A⟩ := X
  obtain ⟨hx, hb, hml, hr, hown, hts, hK, hG, hlk, hrm, hA⟩ := hX
  intro H locs ls hW hS hl
  exact lv_if_ge hx hb hd ht (fun h => kt ((gI_le rng_0 ha).mp h) H locs ls hW hS hl) (fun h => kf (fun z => h ((gI_le rng_0 ha).mpr z)) H locs ls hW hS hl)

theorem g_ifgt (hX : gOk X G cc nL own ret lv) {a : Int} {off : Int} {tgt : Nat} (ha : rng a) (hd : decode cc pc = .ok (.ifCond .gt off, 3)) (ht : (pc : Int) + off = (tgt : Int)) (kt : 0 < a → gWL X G σ tgt loc st) (kf : ¬ (0 < a) → gWL X G σ (pc + 3) loc st) : gWL X G σ pc loc (vi a :: st) := by
  obtain ⟨p, l, e, R, s, m, args, below, meth, c, cells, slots, Q, A⟩ := X
  obtain ⟨hx, hb, hml, hr, hown, hts, hK, hG, hlk, hrm, hA⟩ := hX
  intro H locs ls hW hS hl
  exact lv_if_gt hx hb hd ht (fun h => kt ((gI_lt rng_0 ha).mp h) H locs ls hW hS hl) (fun h => kf (fun z => h ((gI_lt rng_0 ha).mpr z)) H locs ls hW hS hl)

theorem g_ifle (hX : gOk X G cc nL own ret lv) {a : Int} {off : Int} {tgt : Nat} (ha : rng a) (hd : decode cc pc = .ok (.ifCond .le off, 3)) (ht : (pc : Int) + off = (tgt : Int)) (kt : a ≤ 0 → gWL X G σ tgt loc st) (kf : ¬ (a ≤ 0) → gWL X G σ (pc + 3) loc st) : gWL X G σ pc loc (vi a :: st) := by
  obtain ⟨p, l, e, R, s, m, args, below, meth, c, cells, slots, Q, A⟩ := X
  obtain ⟨hx, hb, hml, hr, hown, hts, hK, hG, hlk, hrm, hA⟩ := hX
  intro H locs ls hW hS hl
  exact lv_if_le hx hb hd ht (fun h => kt ((gI_le ha rng_0).mp h) H locs ls hW hS hl) (fun h => kf (fun z => h ((gI_le ha rng_0).mpr z)) H locs ls hW hS hl)

theorem g_iceq (hX : gOk X G cc nL own ret lv) {a b : Int} {off : Int} {tgt : Nat} (ha : rng a) (hbr : rng b) (hd : decode cc pc = .ok (.if_icmp .eq off, 3)) (ht : (pc : Int) + off = (tgt : Int)) (kt : a = b → gWL X G σ tgt loc st) (kf : ¬ (a = b) → gWL X G σ (pc + 3) loc st) : gWL X G σ pc loc (vi b :: vi a :: st) := by
  obtain ⟨p, l, e, R, s, m, args, below, meth, c, cells, slots, Q, A⟩ := X
  obtain ⟨hx, hb, hml, hr, hown, hts, hK, hG, hlk, hrm, hA⟩ := hX
  intro H locs ls hW hS hl
  exact lv_icmp_eq hx hb hd ht (fun h => kt ((gI_eq ha hbr).mp h) H locs ls hW hS hl) (fun h => kf (fun z => h ((gI_eq ha hbr).mpr z)) H locs ls hW hS hl)

theorem g_icne (hX : gOk X G cc nL own ret lv) {a b : Int} {off : Int} {tgt : Nat} (ha : rng a) (hbr : rng b) (hd : decode cc pc = .ok (.if_icmp .ne off, 3)) (ht : (pc : Int) + off = (tgt : Int)) (kt : ¬ a = b → gWL X G σ tgt loc st) (kf : ¬ (¬ a = b) → gWL X G σ (pc + 3) loc st) : gWL X G σ pc loc (vi b :: vi a :: st) := by
  obtain ⟨p, l, e, R, s, m, args, below, meth, c, cells, slots, Q, A⟩ := X
  obtain ⟨hx, hb, hml, hr, hown, hts, hK, hG, hlk, hrm, hA⟩ := hX
  intro H locs ls hW hS hl
  exact lv_icmp_ne hx hb hd ht (fun h => kt (fun z => h ((gI_eq ha hbr).mpr z)) H locs ls hW hS hl) (fun h => kf (fun z => z ((gI_eq ha hbr).mp h)) H locs ls hW hS hl)

theorem g_iclt (hX : gOk X G cc nL own ret lv) {a b : Int} {off : Int} {tgt : Nat} (ha : rng a) (hbr : rng b) (hd : decode cc pc = .ok (.if_icmp .lt off, 3)) (ht : (pc : Int) + off = (tgt : Int)) (kt : a < b → gWL X G σ tgt loc st) (kf : ¬ (a < b) → gWL X G σ (pc + 3) loc st) : gWL X G σ pc loc (vi b :: vi a :: st) := by
  obtain ⟨p, l, e, R, s, m, args, below, meth, c, cells, slots, Q, A⟩ := X
  obtain ⟨hx, hb, hml, hr, hown, hts, hK, hG, hlk, hrm, hA⟩ := hX
  intro H locs ls hW hS hl
  exact lv_icmp_lt hx hb hd ht (fun h => kt ((gI_lt ha hbr).mp h) H locs ls hW hS hl) (fun h => kf (fun z => h ((gI_lt ha hbr).mpr z)) H locs ls hW hS hl)

theorem g_icge (hX : gOk X G cc nL own ret lv) {a b : Int} {off : Int} {tgt : Nat} (ha : rng a) (hbr : rng b) (hd : decode cc pc = .ok (.if_icmp .ge off, 3)) (ht : (pc : Int) + off = (tgt : Int)) (kt : b ≤ a → gWL X G σ tgt loc st) (kf : ¬ (b ≤ a) → gWL X G σ (pc + 3) loc st) : gWL X G σ pc loc (vi b :: vi a :: st) := by
  obtain ⟨p, l, e, R, s, m, args, below, meth, c, cells, slots, Q, A⟩ := X
  obtain ⟨hx, hb, hml, hr, hown, hts, hK, hG, hlk, hrm, hA⟩ := hX
  intro H locs ls hW hS hl
  exact lv_icmp_ge hx hb hd ht (fun h => kt ((gI_le hbr ha).mp h) H locs ls hW hS hl) (fun h => kf (fun z => h ((gI_le hbr ha).mpr z)) H locs ls hW hS hl)

theorem g_icgt (hX : gOk X G cc nL own ret lv) {a b : Int} {off : Int} {tgt : Nat} (ha : rng a) (hbr : rng b) (hd : decode cc pc = .ok (.if_icmp .gt off, 3)) (ht : (pc : Int) + off = (tgt : Int)) (kt : b < a → gWL X G σ tgt loc st) (kf : ¬ (b < a) → gWL X G σ (pc + 3) loc st) : gWL X G σ pc loc (vi b :: vi a :: st) := by
  obtain ⟨p, l, e, R, s, m, args, below, meth, c, cells, slots, Q, A⟩ := X
  obtain ⟨hx, hb, hml, hr, hown, hts, hK, hG, hlk, hrm, hA⟩ := hX
  intro H locs ls hW hS hl
  exact lv_icmp_gt hx hb hd ht (fun h => kt ((gI_lt hbr ha).mp h) H locs ls hW hS hl) (fun h => kf (fun z => h ((gI_lt hbr ha).mpr z)) H locs ls hW hS hl)

theorem g_icle (hX : gOk X G cc nL own ret lv) {a b : Int} {off : Int} {tgt : Nat} (ha : rng a) (hbr : rng b) (hd : decode cc pc = .ok (.if_icmp .le off, 3)) (ht : (pc : Int) + off = (tgt : Int)) (kt : a ≤ b → gWL X G σ tgt loc st) (kf : ¬ (a ≤ b) → gWL X G σ (pc + 3) loc st) : gWL X G σ pc loc (vi b :: vi a :: st) := by
  obtain ⟨p, l, e, R, s, m, args, below, meth, c, cells, slots, Q, A⟩ := X
  obtain ⟨hx, hb, hml, hr, hown, hts, hK, hG, hlk, hrm, hA⟩ := hX
  intro H locs ls hW hS hl
  exact lv_icmp_le hx hb hd ht (fun h => kt ((gI_le ha hbr).mp h) H locs ls hW hS hl) (fun h => kf (fun z => h ((gI_le ha hbr).mpr z)) H locs ls hW hS hl)

theorem g_goto (hX : gOk X G cc nL own ret lv) {off : Int} {tgt : Nat} (hd : decode cc pc = .ok (.goto off, 3)) (ht : (pc : Int) + off = (tgt : Int)) (k : gWL X G σ tgt loc st) : gWL X G σ pc loc st := by
  obtain ⟨p, l, e, R, s, m, args, below, meth, c, cells, slots, Q, A⟩ := X
  obtain ⟨hx, hb, hml, hr, hown, hts, hK, hG, hlk, hrm, hA⟩ := hX
  intro H locs ls hW hS hl
  exact lv_goto hx hb hd ht (k H locs ls hW hS hl)

theorem g_tabOut (hX : gOk X G cc nL own ret lv) {dflt lo hi : Int} {offs : Array Int} {len : Nat} {a : Int} {tgt : Nat} (ha : rng a) (hd : decode cc pc = .ok (.tableswitch dflt lo hi offs, len)) (h : a < lo ∨ hi < a) (ht : (pc : Int) + dflt = (tgt : Int)) (k : gWL X G σ tgt loc st) : gWL X G σ pc loc (vi a :: st) := by
  obtain ⟨p, l, e, R, s, m, args, below, meth, c, cells, slots, Q, A⟩ := X
  obtain ⟨hx, hb, hml, hr, hown, hts, hK, hG, hlk, hrm, hA⟩ := hX
  intro H locs ls hW hS hl
  exact lv_tableOut hx hb hd (by rw [gI_toInt ha]; exact h) ht (k H locs ls hW hS hl)

theorem g_tabIn (hX : gOk X G cc nL own ret lv) {dflt lo hi : Int} {offs : Array Int} {len : Nat} {a : Int} {off : Int} {tgt : Nat} (ha : rng a) (hd : decode cc pc = .ok (.tableswitch dflt lo hi offs, len)) (h1 : lo ≤ a) (h2 : a ≤ hi) (ho : offs[(a - lo).toNat]? = some off) (ht : (pc : Int) + off = (tgt : Int)) (k : gWL X G σ tgt loc st) : gWL X G σ pc loc (vi a :: st) := by
  obtain ⟨p, l, e, R, s, m, args, below, meth, c, cells, slots, Q, A⟩ := X
  obtain ⟨hx, hb, hml, hr, hown, hts, hK, hG, hlk, hrm, hA⟩ := hX
  intro H locs ls hW hS hl
  exact lv_tableIn hx hb hd (by rw [gI_toInt ha]; omega) (by rw [gI_toInt ha]; omega) (by rw [gI_toInt ha]; exact ho) ht (k H locs ls hW hS hl)


def gFL (own : String) (index ci j : Nat) : Prop := ∃ (C : String) (T : u_T) (N : Nat) (ty : Nat → FieldType), vwCl[ci]? = some (C, T, N) ∧ j < N ∧ (∀ w ∈ u_ws C T N, w ∈ gAll) ∧ Cond.fieldLink own index (T j).1 (T j).2.1 (T j).2.2.1 ∈ gAll ∧ (∀ k, k < N → parseFieldDescriptor (T k).2.2.1 = some (ty k)) ∧ (∀ a, a < N → ∀ b, b < N → a ≠ b → (T a).2.1 ≠ (T b).2.1) ∧ ((T j).2.2.1 = "I" → (T j).2.2.2 = false)

theorem g_getI (hX : gOk X G cc nL own ret lv) {k0 : Int} {ci index : Nat} {fl : List (Option Int)} (hs : gshape k0 = some (.inl (ci, fl))) (j : Nat) (hj : fl[j]? = some none) (hF : gFL own index ci j) (hd : decode cc pc = .ok (.getfield index, 3)) (k : gWL X G σ (pc + 3) loc (vi (σ.1 k0 j) :: st)) : gWL X G σ pc loc (gR G k0 :: st) := by
  obtain ⟨p, l, e, R, s, m, args, below, meth, c, cells, slots, Q, A⟩ := X
  obtain ⟨hx, hb, hml, hr, hown, hts, hK, hG, hlk, hrm, hA⟩ := hX
  intro H locs ls hW hS hl
  obtain ⟨C, T, N, ty, hc, hjN, hin, hlink, hty, hnm, -⟩ := hF
  have hat := hW k0 _ hs
  have hv : (gfl G σ k0 0 fl)[j]? = some (vi (σ.1 k0 j)) := by
    have := gfl_int (G := G) (σ := σ) (k := k0) fl 0 j hj
    rwa [Nat.zero_add] at this
  exact va_get (ws := [(G.2.2.1 k0, .inr (ci, gfl G σ k0 0 fl))]) hx hb hts hin hown hK.1 (gP1 hat) 0 rfl hc j hjN (hts _ hlink) (fun _ h => h) hv hd (k H locs ls hW hS hl)

theorem g_getR (hX : gOk X G cc nL own ret lv) {k0 q : Int} {ci index : Nat} {fl : List (Option Int)} (hs : gshape k0 = some (.inl (ci, fl))) (j : Nat) (hj : fl[j]? = some (some q)) (hF : gFL own index ci j) (hd : decode cc pc = .ok (.getfield index, 3)) (k : gWL X G σ (pc + 3) loc (gR G q :: st)) : gWL X G σ pc loc (gR G k0 :: st) := by
  obtain ⟨p, l, e, R, s, m, args, below, meth, c, cells, slots, Q, A⟩ := X
  obtain ⟨hx, hb, hml, hr, hown, hts, hK, hG, hlk, hrm, hA⟩ := hX
  intro H locs ls hW hS hl
  obtain ⟨C, T, N, ty, hc, hjN, hin, hlink, hty, hnm, -⟩ := hF
  have hat := hW k0 _ hs
  exact va_get (ws := [(G.2.2.1 k0, .inr (ci, gfl G σ k0 0 fl))]) hx hb hts hin hown hK.1 (gP1 hat) 0 rfl hc j hjN (hts _ hlink) (fun _ h => h) (gfl_ref fl 0 j hj) hd (k H locs ls hW hS hl)

theorem g_putI (hX : gOk X G cc nL own ret lv) {k0 v : Int} {ci index : Nat} {fl : List (Option Int)} (hs : gshape k0 = some (.inl (ci, fl))) (j : Nat) (hj : fl[j]? = some none) (hF : gFL own index ci j) (hI : ∀ (C : String) (T : u_T) (N : Nat), vwCl[ci]? = some (C, T, N) → (T j).2.2.1 = "I") (hd : decode cc pc = .ok (.putfield index, 3)) (k : gWL X G (gpI σ k0 j v) (pc + 3) loc st) : gWL X G σ pc loc (vi v :: gR G k0 :: st) := by
  obtain ⟨p, l, e, R, s, m, args, below, meth, c, cells, slots, Q, A⟩ := X
  obtain ⟨hx, hb, hml, hr, hown, hts, hK, hG, hlk, hrm, hA⟩ := hX
  intro H locs ls hW hS hl
  obtain ⟨C, T, N, ty, hc, hjN, hin, hlink, hty, hnm, hfin⟩ := hF
  have hI := hI C T N hc
  have hfin := hfin hI
  have hat := hW k0 _ hs
  have hap := va_apart (own := own) hts hin ty hty hnm hK.1 hc
  obtain ⟨r, h1, cell, q1, q2, q3, q4⟩ := hat
  have hr : r = (C, T, N) := Option.some.inj (h1.symm.trans hc)
  subst hr
  obtain ⟨hSl, hfc, kC, hkC, hkind⟩ := hK.1.1 ci _ hc
  obtain ⟨cf, kf, fi, f, hi, hsl⟩ := hSl j hjN
  have hlay := hts _ (hin _ (u_in_lay hjN))
  unfold u_lay at hlay
  rw [if_neg (by rw [hfin]; decide)] at hlay
  have hst := (u_facts hfc hkC (u_lays hts hin hjN) hi).1
  have h6 := u_store hfc hkC hkind hlay hi (ty := .int) (v := vi v) (by rw [hI]; decide +kernel) rfl rfl
  have hlen : j < (gfl G σ k0 0 fl).length := by
    rw [gfl_len]
    exact (List.getElem?_eq_some_iff.mp hj).1
  refine W.putK hx hb (f := f) (v := vi v) ⟨hown, hts _ hlink, ⟨_, _, _, hi⟩, hst⟩ (by rw [q2]; exact h6) q1 q3 (by rw [hsl]; exact k2_hasslot (q4 j hjN)) rfl rfl hd fun H' e1 e2 e3 => ?_
  rw [hsl] at e1 ⊢
  refine k H' _ ls (hW.upd hG hs ?_ e3 (fun k' sh' hk => gcont_I hk sh')) (hS.put e2 e3 (hA _ ⟨k0, _, hs, rfl⟩)) hl
  have e : gfl G (gpI σ k0 j v) k0 0 fl = (gfl G σ k0 0 fl).set j (vi v) := by
    have := gfl_set (G := G) (σ := σ) (k := k0) (v := v) fl 0 j hj
    rw [Nat.zero_add] at this
    exact this.symm
  show va_at _ _ (G.2.2.1 k0, .inr (ci, gfl G (gpI σ k0 j v) k0 0 fl)) H'
  rw [e]
  exact ⟨_, hc, t_OB.to (V := updV (vp_V (gfl G σ k0 0 fl)) j (vi v)) ⟨_, e1, q2, q3, t_set q4 hap hjN (vi v)⟩ (fun x _ => vp_updV_set hlen (vi v) x)⟩

theorem g_iald (hX : gOk X G cc nL own ret lv) {k0 i : Int} {n : Nat} (hs : gshape k0 = some (.inr (.inl (0, n)))) (hi : 0 ≤ i ∧ i < n) (hn : n < 2147483648) (hd : decode cc pc = .ok (.iaload, 1)) (k : gWL X G σ (pc + 1) loc (vi (σ.2 k0 i) :: st)) : gWL X G σ pc loc (vi i :: gR G k0 :: st) := by
  obtain ⟨p, l, e, R, s, m, args, below, meth, c, cells, slots, Q, A⟩ := X
  obtain ⟨hx, hb, hml, hr, hown, hts, hK, hG, hlk, hrm, hA⟩ := hX
  intro H locs ls hW hS hl
  have hat := hW k0 _ hs
  have h := k H locs ls hW hS hl
  refine va_iald (ws := [(G.2.2.1 k0, .inl (G.2.2.2 0, n, .inl (fun j => Int32.ofInt (σ.2 k0 (j : Int)))))]) hx hb hK.1 (gP1 hat) 0 0 rfl rfl (gI_in hi.1 hi.2 hn) hd ?_
  rw [gI_nat hi.1 hi.2 hn]
  exact h

theorem g_zald (hX : gOk X G cc nL own ret lv) {k0 i : Int} {n : Nat} (hs : gshape k0 = some (.inr (.inl (1, n)))) (hi : 0 ≤ i ∧ i < n) (hn : n < 2147483648) (hd : decode cc pc = .ok (.baload, 1)) (k : gWL X G σ (pc + 1) loc (vi (σ.2 k0 i) :: st)) : gWL X G σ pc loc (vi i :: gR G k0 :: st) := by
  obtain ⟨p, l, e, R, s, m, args, below, meth, c, cells, slots, Q, A⟩ := X
  obtain ⟨hx, hb, hml, hr, hown, hts, hK, hG, hlk, hrm, hA⟩ := hX
  intro H locs ls hW hS hl
  have hat := hW k0 _ hs
  have h := k H locs ls hW hS hl
  refine va_zald (ws := [(G.2.2.1 k0, .inl (G.2.2.2 1, n, .inl (fun j => Int32.ofInt (σ.2 k0 (j : Int)))))]) hx hb hK.1 (gP1 hat) 0 1 rfl rfl (gI_in hi.1 hi.2 hn) hd ?_
  rw [gI_nat hi.1 hi.2 hn]
  exact h

theorem g_iast (hX : gOk X G cc nL own ret lv) {k0 i v : Int} {n : Nat} (hs : gshape k0 = some (.inr (.inl (0, n)))) (hi : 0 ≤ i ∧ i < n) (hn : n < 2147483648) (hd : decode cc pc = .ok (.iastore, 1)) (k : gWL X G (gpA σ k0 i v) (pc + 1) loc st) : gWL X G σ pc loc (vi v :: vi i :: gR G k0 :: st) := by
  obtain ⟨p, l, e, R, s, m, args, below, meth, c, cells, slots, Q, A⟩ := X
  obtain ⟨hx, hb, hml, hr, hown, hts, hK, hG, hlk, hrm, hA⟩ := hX
  intro H locs ls hW hS hl
  have hat := hW k0 _ hs
  refine W.iast hx hb (j := Int32.ofInt i) (x := Int32.ofInt v) hat ((hK.1.2 0 _ rfl).1 n (fun j => .int (Int32.ofInt (σ.2 k0 (j : Int))))) (fun q => by cases q) (by show ¬ (Int32.ofInt i < 0 ∨ (arrV _ _ _).slots.size ≤ _); rw [arrV_size]; exact gI_in hi.1 hi.2 hn) rfl rfl hd fun H1 e z oq => ?_
  refine k H1 _ ls (hW.upd hG hs ?_ oq (fun k' sh' hk => gcont_A hk sh')) (hS.put z oq (hA _ ⟨k0, _, hs, rfl⟩)) hl
  show H1[G.2.2.1 k0]? = some (arrV (G.2.2.2 0) n (fun j => .int (Int32.ofInt ((gpA σ k0 i v).2 k0 (j : Int)))))
  refine e.trans ?_
  show some ((arrV (G.2.2.2 0) n (fun j => .int (Int32.ofInt (σ.2 k0 (j : Int))))).setSlot _ _) = _
  rw [arrV_store]
  congr 2
  funext q
  by_cases hq : q = (Int32.ofInt i).toNatClampNeg
  · have hq' : (q : Int) = i := by rw [hq, gI_nat hi.1 hi.2 hn]
    have e2 : (gpA σ k0 i v).2 k0 (q : Int) = v := if_pos ⟨rfl, hq'⟩
    rw [e2]
    subst hq
    simp [updV]
  · have hq' : ¬ (q : Int) = i := fun h => hq (by have := gI_nat hi.1 hi.2 hn; omega)
    have e2 : (gpA σ k0 i v).2 k0 (q : Int) = σ.2 k0 (q : Int) := if_neg (fun h => hq' h.2)
    rw [e2]
    simp [updV, hq]

theorem g_zast (hX : gOk X G cc nL own ret lv) {k0 i v : Int} {n : Nat} (hs : gshape k0 = some (.inr (.inl (1, n)))) (hi : 0 ≤ i ∧ i < n) (hn : n < 2147483648) (h01 : v = 0 ∨ v = 1) (hd : decode cc pc = .ok (.bastore, 1)) (k : gWL X G (gpA σ k0 i v) (pc + 1) loc st) : gWL X G σ pc loc (vi v :: vi i :: gR G k0 :: st) := by
  obtain ⟨p, l, e, R, s, m, args, below, meth, c, cells, slots, Q, A⟩ := X
  obtain ⟨hx, hb, hml, hr, hown, hts, hK, hG, hlk, hrm, hA⟩ := hX
  intro H locs ls hW hS hl
  have hat := hW k0 _ hs
  refine W.zast hx hb (j := Int32.ofInt i) (x := Int32.ofInt v) hat ((hK.1.2 1 _ rfl).1 n (fun j => .int (Int32.ofInt (σ.2 k0 (j : Int))))) (fun q => by cases q) (by show ¬ (Int32.ofInt i < 0 ∨ (arrV _ _ _).slots.size ≤ _); rw [arrV_size]; exact gI_in hi.1 hi.2 hn) rfl rfl hd fun H1 e z oq => ?_
  refine k H1 _ ls (hW.upd hG hs ?_ oq (fun k' sh' hk => gcont_A hk sh')) (hS.put z oq (hA _ ⟨k0, _, hs, rfl⟩)) hl
  show H1[G.2.2.1 k0]? = some (arrV (G.2.2.2 1) n (fun j => .int (Int32.ofInt ((gpA σ k0 i v).2 k0 (j : Int)))))
  refine e.trans ?_
  show some ((arrV (G.2.2.2 1) n (fun j => .int (Int32.ofInt (σ.2 k0 (j : Int))))).setSlot _ _) = _
  rw [arrV_store]
  congr 2
  funext q
  by_cases hq : q = (Int32.ofInt i).toNatClampNeg
  · have hq' : (q : Int) = i := by rw [hq, gI_nat hi.1 hi.2 hn]
    have e2 : (gpA σ k0 i v).2 k0 (q : Int) = v := if_pos ⟨rfl, hq'⟩
    rw [e2]
    subst hq
    have hnv : narrow .boolean (.int (Int32.ofInt v)) = .int (Int32.ofInt v) := by rcases h01 with rfl | rfl <;> decide
    simp [updV, hnv]
  · have hq' : ¬ (q : Int) = i := fun h => hq (by have := gI_nat hi.1 hi.2 hn; omega)
    have e2 : (gpA σ k0 i v).2 k0 (q : Int) = σ.2 k0 (q : Int) := if_neg (fun h => hq' h.2)
    rw [e2]
    simp [updV, hq]

theorem g_aald (hX : gOk X G cc nL own ret lv) {k0 i : Int} {kd n : Nat} {f : Nat → Int} {ty : FieldType} (hs : gshape k0 = some (.inr (.inr (kd, n, f)))) (hty : (gtys G)[kd]? = some (G.2.2.2 kd, ty)) (href : ty.isReference = true) (hi : 0 ≤ i ∧ i < n) (hn : n < 2147483648) {q : Int} (hq : f i.toNat = q) (hd : decode cc pc = .ok (.aaload, 1)) (k : gWL X G σ (pc + 1) loc (gR G q :: st)) : gWL X G σ pc loc (vi i :: gR G k0 :: st) := by
  obtain ⟨p, l, e, R, s, m, args, below, meth, c, cells, slots, Q, A⟩ := X
  obtain ⟨hx, hb, hml, hr, hown, hts, hK, hG, hlk, hrm, hA⟩ := hX
  intro H locs ls hW hS hl
  have hat := hW k0 _ hs
  have h := k H locs ls hW hS hl
  have hin : vp_in (Int32.ofInt i) n := gI_in hi.1 hi.2 hn
  have hlt : (Int32.ofInt i).toNatClampNeg < n := Nat.not_le.mp fun q => hin (Or.inr q)
  have e : (Int32.ofInt i).toNatClampNeg = i.toNat := by have := gI_nat hi.1 hi.2 hn; omega
  subst hq
  refine W.aald (v := gR G (f i.toNat)) (ty := ty) hx hb hat ((hK.1.2 kd _ hty).1 n (fun j => va_rf (some (G.2.2.1 (f j))))) href (fun q => by cases q) (by show ¬ (Int32.ofInt i < 0 ∨ (arrV _ _ _).slots.size ≤ _); rw [arrV_size]; exact hin) (by show (arrV _ _ _).slots[_]? = _; rw [arrV_read _ _ hlt, e]; rfl) rfl rfl hd h


theorem g_iret {Q' : Int → gS → Prop} {v : Int} (hX : gOk X G cc nL own (some .int) lv) (hE : gEnd X G (gPi Q')) (hd : decode cc pc = .ok (.ireturn, 1)) (h : Q' v σ) : gWL X G σ pc loc [vi v] := by
  obtain ⟨p, l, e, R, s, m, args, below, meth, c, cells, slots, Q, A⟩ := X
  obtain ⟨hx, hb, hml, hr, hown, hts, hK, hG, hlk, hrm, hA⟩ := hX
  obtain ⟨rfl, rfl⟩ := hE
  intro H locs ls hW hS hl
  exact W.iret hx hb hr (fun t ht _ => ⟨⟨_, σ, rfl, ⟨v, rfl, h⟩, by rw [ht]; exact hW⟩, hS.F ht⟩) hS.2.2 hd (hlocks := hlk)
theorem g_zret {Q' : Int → gS → Prop} {v : Int} (hX : gOk X G cc nL own (some .boolean) lv) (hE : gEnd X G (gPi Q')) (hv : v = 0 ∨ v = 1) (hd : decode cc pc = .ok (.ireturn, 1)) (h : Q' v σ) : gWL X G σ pc loc [vi v] := by
  obtain ⟨p, l, e, R, s, m, args, below, meth, c, cells, slots, Q, A⟩ := X
  obtain ⟨hx, hb, hml, hr, hown, hts, hK, hG, hlk, hrm, hA⟩ := hX
  obtain ⟨rfl, rfl⟩ := hE
  intro H locs ls hW hS hl
  have hn : narrow .boolean (.int (Int32.ofInt v)) = .int (Int32.ofInt v) := by rcases hv with rfl | rfl <;> decide
  exact W.zret hx hb hr hn (fun t ht _ => ⟨⟨_, σ, rfl, ⟨v, rfl, h⟩, by rw [ht]; exact hW⟩, hS.F ht⟩) hS.2.2 hd (hlocks := hlk)
theorem g_vret {Q' : gS → Prop} (hX : gOk X G cc nL own none lv) (hE : gEnd X G (gPv Q')) (hd : decode cc pc = .ok (.return_, 1)) (h : Q' σ) : gWL X G σ pc loc [] := by
  obtain ⟨p, l, e, R, s, m, args, below, meth, c, cells, slots, Q, A⟩ := X
  obtain ⟨hx, hb, hml, hr, hown, hts, hK, hG, hlk, hrm, hA⟩ := hX
  obtain ⟨rfl, rfl⟩ := hE
  intro H locs ls hW hS hl
  exact W.vret hx hb hr (fun t ht _ => ⟨⟨_, σ, rfl, ⟨rfl, h⟩, by rw [ht]; exact hW⟩, hS.F ht⟩) hS.2.2 hd (hlocks := hlk)
/-! ===== calls ===== -/
theorem gBlind {G : gG} {σ : gS} {av : List Value} : FrameBlind (va_Pc av (fun U => gW G σ U.heap ∧ gK G U)) := by
  intro a U g mk q
  obtain ⟨q0, q1, q2, q3⟩ := q
  exact ⟨q0, q1, va_K.moved (u := U) (U := U.calling g mk a) (Vm.Alike.refl U.vm) q2, gN.same (u := U) (U := U.calling g mk a) rfl q3⟩
theorem g_back {p : Program} {l : Launch} {e : Env} {R : Room} {s : State} {m : MethodId} {args : Array Value} {below : List Frame} {meth : Method} {c : Code} {cells slots : Nat} {Q : State → Prop} {A : Nat → Prop} {H : Heap} {locs : List Loc} {ls : Array Slot} {rest st0 : List Value} {a : Array Value} {P' : Option Value → gS → Prop}
    (hrun : va_Run p l e R s m args below meth c H locs cells slots 0 0 (F0 m pc ls st0) rest (gQ G P' a) (gA G)) (hS : va_S A s.heap H locs) (hA : ∀ q, gA G q → A q)
    (kk : ∀ (r : Option Value) (σ' : gS), P' r σ' → ∀ (H1 : Heap) (locs1 : List Loc), gW G σ' H1 → va_S A s.heap H1 locs1 → W p l e R s m args below meth c H1 locs1 cells slots Q (F0 m (pc + 3) ls (r.toList ++ rest))) : W p l e R s m args below meth c H locs cells slots Q (F0 m pc ls st0) := by
  intro T hT Xs
  obtain ⟨v, st₀, t, T', L, h0, X', hL, e1, e2, ⟨⟨r, σ', hv, hp, hW1⟩, hz, hk⟩, stp⟩ := hrun T hT Xs
  cases hv
  rw [h0] at hz hk
  obtain ⟨t2, a1, b1⟩ := kk v σ' hp T'.heap (locs ++ L) (by rw [e1]; exact hW1)
    ⟨Nat.le_trans hS.1 (by rw [e1]; exact hz), fun q h1 h2 => by rw [e1, hk q (Nat.lt_of_lt_of_le h1 hS.1) (fun z => h2 (hA q z))]; exact hS.2.1 q h1 h2, fun q hq => by
      rcases List.mem_append.mp hq with h | h
      · exact hS.2.2 q h
      · exact hA _ (hL q h)⟩ T' rfl X'
  exact ⟨t2, stp t2 a1, b1⟩
def gCV (own : String) (index : Nat) (y : MethodName) (bytes : ByteArray) (maxL : Nat) (r : Option FieldType) (n ci : Nat) : Prop := ∃ (T : u_T) (N : Nat), vwCl[ci]? = some (y.cls, T, N) ∧ Cond.methodLink own index y ∈ gAll ∧ Cond.instanceMethod y ∈ gAll ∧ Cond.selects y.cls y y ∈ gAll ∧ Cond.initialized y.cls ∈ gAll ∧ Cond.code y bytes maxL r ∈ gAll ∧ (y.cls ≠ "java/lang/invoke/MethodHandle" ∧ y.cls ≠ "java/lang/invoke/VarHandle" ∧ (parseMethodDescriptor y.desc).map (fun d => d.parameters.length) = some n) ∧ maxL ≤ 21
def gCS (own : String) (index : Nat) (y : MethodName) (bytes : ByteArray) (maxL : Nat) (r : Option FieldType) (n : Nat) : Prop := Cond.methodLink own index y ∈ gAll ∧ Cond.static y ∈ gAll ∧ Cond.initialized y.cls ∈ gAll ∧ Cond.code y bytes maxL r ∈ gAll ∧ (y.cls ≠ "java/lang/invoke/MethodHandle" ∧ y.cls ≠ "java/lang/invoke/VarHandle" ∧ (parseMethodDescriptor y.desc).map (fun d => d.parameters.length) = some n) ∧ maxL ≤ 21
def gCN (own : String) (index : Nat) (y : MethodName) (host : String) (bytes : ByteArray) (maxL : Nat) (r : Option FieldType) (n : Nat) : Prop := Cond.methodLinkNest own index y host ∈ gNest ∧ Cond.static y ∈ gAll ∧ Cond.initialized y.cls ∈ gAll ∧ Cond.code y bytes maxL r ∈ gAll ∧ (y.cls ≠ "java/lang/invoke/MethodHandle" ∧ y.cls ≠ "java/lang/invoke/VarHandle" ∧ (parseMethodDescriptor y.desc).map (fun d => d.parameters.length) = some n) ∧ maxL ≤ 21
theorem g_callV {y : MethodName} {bytes : ByteArray} {maxL n ci index lv' : Nat} {r' : Option FieldType} {k0 : Int} {fl : List (Option Int)} {As stk : List Value} {P' : Option Value → gS → Prop} (hX : gOk X G cc nL own ret lv) (hM : ∀ l : Launch, gMet l G y bytes maxL r' lv' (gR G k0 :: As) σ P') (hs : gshape k0 = some (.inl (ci, fl))) (hw : gCV own index y bytes maxL r' n ci) (hlv : lv' + 1 ≤ lv) (hn : As.length = n) (hst : (st.map fun v => v.category).sum ≤ 8) (hd : decode cc pc = .ok (.invokevirtual index, 3)) (hstk : stk = As.reverse ++ gR G k0 :: st)
    (kk : ∀ (r : Option Value) (σ' : gS), P' r σ' → gWL X G σ' (pc + 3) loc (r.toList ++ st)) : gWL X G σ pc loc stk := by
  obtain ⟨p, l, e, R, s, m, args, below, meth, c, cells, slots, Q, A⟩ := X
  obtain ⟨hx, hb, hml, hr, hown, hts, hK, hG, hlk, hrm, hA⟩ := hX
  obtain ⟨T, N, hc, w1, w2, w3, w4, w5, w6, w7⟩ := hw
  intro H locs ls hW hS hl
  have cb : CallB R s args own index y bytes maxL r' (Cond.code y bytes maxL r' :: gAll) (rmL lv') 0 0 n := callB_of n hts (gGood (fun _ h => h) w5) rfl rfl rfl (hts _ w4) (hts _ w1) w6 ⟨by show lv' + 1 ≤ _; omega, by show _ + 40 * lv' ≤ _; omega⟩
  obtain ⟨r, h1, cell, q1, q2, q3, q4⟩ := hW k0 _ hs
  have hr : r = (y.cls, T, N) := Option.some.inj (h1.symm.trans hc)
  subst hr
  obtain ⟨-, hfc, -⟩ := hK.1.1 ci _ hc
  refine g_back (va_runV (As := As) (rest := st) (b := G.2.2.1 k0) (C := y.cls) ⟨hx, hb, rfl, hown, hts⟩ (hM l) ⟨cb, hts _ w2, hts _ w3⟩ ⟨gBlind, ⟨cell, q1, by rw [q3]; rfl, by rw [q2]; exact hfc⟩, fun U hU hW' => ⟨rfl, by rw [hU]; exact hW, gK.warm hW' hK⟩⟩ rfl hn hl.1 hstk (lv_room hst) hd ⟨by omega, by omega⟩) hS hA ?_
  intro r σ' hp H1 locs1 hW1 hS1
  exact kk r σ' hp H1 locs1 ls hW1 hS1 hl
theorem g_callS {y : MethodName} {bytes : ByteArray} {maxL n index lv' : Nat} {r' : Option FieldType} {As stk : List Value} {P' : Option Value → gS → Prop} (hX : gOk X G cc nL own ret lv) (hM : ∀ l : Launch, gMet l G y bytes maxL r' lv' As σ P') (hw : gCS own index y bytes maxL r' n) (hlv : lv' + 1 ≤ lv) (hn : As.length = n) (hst : (st.map fun v => v.category).sum ≤ 8) (hd : decode cc pc = .ok (.invokestatic index, 3)) (hstk : stk = As.reverse ++ st)
    (kk : ∀ (r : Option Value) (σ' : gS), P' r σ' → gWL X G σ' (pc + 3) loc (r.toList ++ st)) : gWL X G σ pc loc stk := by
  obtain ⟨p, l, e, R, s, m, args, below, meth, c, cells, slots, Q, A⟩ := X
  obtain ⟨hx, hb, hml, hr, hown, hts, hK, hG, hlk, hrm, hA⟩ := hX
  obtain ⟨w1, w2, w4, w5, w6, w7⟩ := hw
  intro H locs ls hW hS hl
  have cb : CallB R s args own index y bytes maxL r' (Cond.code y bytes maxL r' :: gAll) (rmL lv') 0 0 n := callB_of n hts (gGood (fun _ h => h) w5) rfl rfl rfl (hts _ w4) (hts _ w1) w6 ⟨by show lv' + 1 ≤ _; omega, by show _ + 40 * lv' ≤ _; omega⟩
  refine g_back (va_runS (As := As) (rest := st) ⟨hx, hb, rfl, hown, hts⟩ (hM l) ⟨cb, hts _ w2⟩ ⟨gBlind, fun U hU hW' => ⟨rfl, by rw [hU]; exact hW, gK.warm hW' hK⟩⟩ rfl hn hl.1 hstk (lv_room hst) hd ⟨by omega, by omega⟩) hS hA ?_
  intro r σ' hp H1 locs1 hW1 hS1
  exact kk r σ' hp H1 locs1 ls hW1 hS1 hl
theorem g_callSN {y : MethodName} {bytes : ByteArray} {maxL n index lv' : Nat} {host : String} {r' : Option FieldType} {As stk : List Value} {P' : Option Value → gS → Prop} (hX : gOk X G cc nL own ret lv) (hM : ∀ l : Launch, gMet l G y bytes maxL r' lv' As σ P') (hw : gCN own index y host bytes maxL r' n) (hlv : lv' + 1 ≤ lv) (hn : As.length = n) (hst : (st.map fun v => v.category).sum ≤ 8) (hd : decode cc pc = .ok (.invokestatic index, 3)) (hstk : stk = As.reverse ++ st)
    (kk : ∀ (r : Option Value) (σ' : gS), P' r σ' → gWL X G σ' (pc + 3) loc (r.toList ++ st)) : gWL X G σ pc loc stk := by
  obtain ⟨p, l, e, R, s, m, args, below, meth, c, cells, slots, Q, A⟩ := X
  obtain ⟨hx, hb, hml, hr, hown, hts, hK, hG, hlk, hrm, hA⟩ := hX
  obtain ⟨w1, w2, w4, w5, w6, w7⟩ := hw
  intro H locs ls hW hS hl
  have cb := va_cnB (R := R) (s := s) (args := args) (own := own) (host := host) (index := index) (y := y) (bytes := bytes) (maxL := maxL) (ret := r') (ws := Cond.code y bytes maxL r' :: gAll) (rm := rmL lv') (mc := 0) (ms := 0) n hts (gGood (fun _ h => h) w5) rfl rfl rfl (hK.2 _ w1) (hts _ w4) w6 ⟨by show lv' + 1 ≤ _; omega, by show _ + 40 * lv' ≤ _; omega⟩
  refine g_back (va_runSN (As := As) (rest := st) ⟨hx, hb, rfl, hown, hts⟩ (hM l) ⟨cb, hts _ w2, trivial⟩ ⟨gBlind, fun U hU hW' => ⟨rfl, by rw [hU]; exact hW, gK.warm hW' hK⟩⟩ rfl hn hl.1 hstk (lv_room hst) hd ⟨by omega, by omega⟩) hS hA ?_
  intro r σ' hp H1 locs1 hW1 hS1
  exact kk r σ' hp H1 locs1 ls hW1 hS1 hl
end GROWS

