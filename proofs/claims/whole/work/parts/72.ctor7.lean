/-! ===== GleePrize() ===== -/
def gAr0 (G : gG) (b : Nat) (i : Int) : va_E := .inl (G.2.2.2 2, 6, .inr (.inr (.inr (.inr (fun j => if (j : Int) < i then some (b + (1 + 3 * j)) else none)))))
def gAr1 (G : gG) (b : Nat) (i : Int) : va_E := .inl (G.2.2.2 3, 10, .inr (.inr (.inr (.inr (fun j => if (j : Int) < i then some (b + (20 + 2 * j)) else none)))))
def gEX7 (G : gG) (b : Nat) : Nat → va_E := fun i =>
  if i = 0 then gAr0 G b 6 else if i < 19 then (if i % 3 = 1 then .inr (3, gFX3 (b + (i + 1))) else .inl (G.2.2.2 0, 24, .inl (fun _ => 0)))
  else if i = 19 then gAr1 G b 10 else if i < 40 then (if i % 2 = 0 then .inr (4, gFX4 (b + (i + 1))) else .inl (G.2.2.2 0, 120, .inl (fun _ => 0)))
  else if i = 40 then .inr (1, gFX1 (b + 41)) else if i = 41 then .inr (0, gFX0 (b + 42)) else if i < 75 then gEX0 G (b + 42) (i - 42)
  else if i = 75 then .inr (2, gFX2 (b + 76)) else if i < 87 then gEX2 G (b + 76) (i - 76) else if i = 87 then .inr (5, gFX5 (b + 88)) else if i < 92 then gEX5 G (b + 88) (i - 88)
  else if i = 92 then .inr (6, gFX6 (b + 93)) else if i < 98 then gEX6 G (b + 93) (i - 93) else .inl (G.2.2.2 0, 12, .inl (fun _ => 0))
def gFX7 (b : Nat) : List Value := [.ref (b + 0), .ref (b + 19), .ref (b + 40), .ref (b + 41), .ref (b + 75), .ref (b + 87), .ref (b + 92), .ref (b + 98)]
theorem k_catE {Y : gY} {G : gG} {h0 : Option Nat} {b : Nat} {T : va_E} {E : Nat → va_E} {n sl pc kc' : Nat} {loc : List (Nat × Value)} {st : List Value} {e0 e1 : va_E} {E2 : Nat → va_E} (hE : E n = e1) (hE2 : ∀ i, i < kc' → E (n + 1 + i) = E2 i) (k : gCW Y G h0 b T E (n + 1 + kc') sl pc loc st) : gCW Y G h0 b T (gcat (gup E n e0) (n + 1) n e1 E2) (n + 1 + kc') sl pc loc st := by
  refine k_eq (fun i hi => ?_) k
  unfold gcat
  by_cases h : i = n
  · rw [if_pos h, h, hE]
  · rw [if_neg h]
    by_cases h2 : i < n + 1
    · rw [if_pos h2]
      unfold gup
      rw [if_neg h]
    · rw [if_neg h2, ← hE2 _ (by omega), show n + 1 + (i - (n + 1)) = i by omega]
set_option maxRecDepth 100000 in
set_option maxHeartbeats 4000000 in
theorem n_X7 (l : Launch) (G : gG) (a b : Nat) : gNM l G yX7_init cX7_init 2 2 7 99 5515 [.null, .null, .null, .null, .null, .null, .null, .null] (gFX7 b) (gEX7 G b) a b := by
  refine gNM_of (plainFor_of_name (by decide)) rfl (Nat.le_of_ble_eq_true rfl) (fun Y hY hI hQ => ?_)
  refine k_aload hY dX7_init_0 0 rfl ?_
  refine k_objInit hY (gm_1 17 rfl rfl) (gm_1 18 rfl rfl) (gm_1 19 rfl rfl) (by decide) (by decide) dX7_init_1 ?_
  refine k_aload hY dX7_init_4 0 rfl ?_
  refine k_bipush (x := 6) hY dX7_init_5 (by decide) ?_
  refine k_newq (N := 6) (kd := 2) (C := "GleePrize$Piece") hY (gm_1 20 rfl rfl) (fun _ h => h.1) rfl (by decide) (by decide) (by decide) (by decide) (by decide) dX7_init_7 ?_
  refine k_putE (fs' := [.ref (b + 0), .null, .null, .null, .null, .null, .null, .null]) (C := RX7) (TT := TX7) (N := 8) (j := 0) (t0 := .array (.object "GleePrize$Piece")) hY hI rfl inG_X7 tyX7 tyX7_ok nmX7 (by decide) (gm_1 222 rfl rfl) rfl (by decide +kernel) rfl rfl (Nat.le_of_ble_eq_true rfl) rfl dX7_init_10 ?_
  refine k_iconst (x := 0) hY dX7_init_13 ?_
  refine k_istore (loc' := [(1, vi 0), (0, .ref a)]) hY dX7_init_14 (by decide) rfl ?_
  refine k_eq (E' := gup (gEX7 G b) 0 (gAr0 G b 0)) (fun i hi => ?_) ?_
  · unfold gup
    by_cases e : i = 0
    · rw [if_pos e, if_pos e]
      unfold gAr0
      refine congrArg (fun f => (.inl (G.2.2.2 2, 6, .inr (.inr (.inr (.inr f)))) : va_E)) (funext fun q => ?_)
      rw [if_neg (by omega)]
    · exfalso; omega
  refine gloop (α := Unit) (hi := 6) (fun i _ => 0 ≤ i) (fun i _ => gCW Y G (some a) b (.inr (7, [.ref (b + 0), .null, .null, .null, .null, .null, .null, .null])) (gup (gEX7 G b) 0 (gAr0 G b i)) (0 + 1 + 3 * i.toNat) (6 + 51 * i.toNat) 15 [(1, vi i), (0, .ref a)] []) ?_ ?_ 0 () (by omega) (by omega)
  · intro i _ hi h0 next
    refine k_iload hY dX7_init_15 0 rfl ?_
    refine k_bipush (x := 6) hY dX7_init_16 (by decide) ?_
    refine k_icge hY (rng_of (by omega) (by omega)) (rng_of (by omega) (by omega)) dX7_init_18 rfl (fun h => by omega) (fun _ => ?_)
    refine k_aload hY dX7_init_21 1 rfl ?_
    refine k_get (C := RX7) (TT := TX7) (N := 8) (j := 0) hY rfl inG_X7 (by decide) (gm_1 222 rfl rfl) rfl dX7_init_22 ?_
    refine k_iload hY dX7_init_25 0 rfl ?_
    refine k_new (ci := 3) (fs := [.null, .null, .int 0]) hY rfl inG_X3 tyX3 tyX3_ok (gm_1 20 rfl rfl) (gm_1 22 rfl rfl) (gm_1 2 rfl rfl) (fun j hj => by rcases (show j = 0 ∨ j = 1 ∨ j = 2 by omega) with rfl | rfl | rfl <;> rfl) (by omega) (by omega) dX7_init_26 ?_
    refine k_dup hY dX7_init_29 ?_
    refine k_callN (i0 := _) hY (fun l => n_X3 l G _ _) (by omega) (if_pos rfl) rfl (gn_1 23 rfl rfl) (gm_1 24 rfl rfl) (gm_1 2 rfl rfl) (gm_1 25 rfl rfl) ⟨by decide, by decide, by decide +kernel⟩ (by decide) (by decide) (Nat.le_of_ble_eq_true rfl) (by omega) (by omega) dX7_init_30 ?_
    refine k_catE ?_ ?_ ?_
    · unfold gup
      rw [if_neg (by omega)]
      unfold gEX7
      rw [if_neg (by omega), if_pos (by omega), if_pos (by omega)]
      try rfl
    · intro t ht
      unfold gup
      rw [if_neg (by omega)]
      unfold gEX7
      rw [if_neg (by omega), if_pos (by omega), if_neg (by omega)]
      try rfl
    refine k_aast (i0 := 0) (v0 := 0 + 1 + 3 * i.toNat) (ci := 3) (kd := 2) (N := 6) (C := RX3) (TT := TX3) (NN := 3) (vs := gFX3 (b + (0 + 1 + 3 * i.toNat + 1))) (f := fun j => if (j : Int) < i then some (b + (0 + 1 + 3 * j)) else none) hY (by omega) (if_pos rfl) (by omega) ?_ rfl rfl (by omega) (by decide) dX7_init_33 ?_
    · unfold gup
      rw [if_neg (by omega)]
      unfold gEX7
      rw [if_neg (by omega), if_pos (by omega), if_pos (by omega)]
    refine k_iinc (d := 1) (loc' := [(1, vi (i + 1)), (0, .ref a)]) hY dX7_init_34 0 rfl (by decide) rfl ?_
    refine k_goto (tgt := 15) hY dX7_init_37 rfl ?_
    refine k_eq (E' := gup (gEX7 G b) 0 (gAr0 G b (i + 1))) (fun t ht => ?_) ?_
    · unfold gup
      by_cases e : t = 0
      · rw [if_pos e, if_pos e]
        unfold gAr0
        refine congrArg (fun f => (.inl (G.2.2.2 2, 6, .inr (.inr (.inr (.inr f)))) : va_E)) (funext fun q => ?_)
        by_cases c1 : (q : Int) = i
        · rw [if_pos (by omega), if_pos c1, show i.toNat = q by omega]
        · rw [if_neg c1]
          by_cases c2 : (q : Int) < i
          · rw [if_pos (by omega), if_pos c2]
          · rw [if_neg (by omega), if_neg c2]
      · rw [if_neg e, if_neg e, if_neg e]
    · have hk := next () (by omega)
      rw [show (i + 1).toNat = i.toNat + 1 by omega] at hk
      exact k_to rfl (by omega) (by omega) hk
  · intro _ h0
    refine k_iload hY dX7_init_15 0 rfl ?_
    refine k_bipush (x := 6) hY dX7_init_16 (by decide) ?_
    refine k_icge (tgt := 40) hY (rng_of (by omega) (by omega)) (rng_of (by omega) (by omega)) dX7_init_18 rfl (fun _ => ?_) (fun h => by omega)
    refine k_eq (E' := gEX7 G b) (fun t ht => ?_) ?_
    · unfold gup
      by_cases e : t = 0
      · rw [if_pos e, e]; rfl
      · rw [if_neg e]
    refine k_to (n' := 19) (sl' := 312) rfl rfl rfl ?_
    refine k_aload hY dX7_init_40 1 rfl ?_
    refine k_bipush (x := 10) hY dX7_init_41 (by decide) ?_
    refine k_newq (N := 10) (kd := 3) (C := "GleePrize$Recording") hY (gm_1 42 rfl rfl) (fun _ h => h.2.1) rfl (by decide) (by decide) (by decide) (by decide) (by decide) dX7_init_43 ?_
    refine k_putE (fs' := [.ref (b + 0), .ref (b + 19), .null, .null, .null, .null, .null, .null]) (C := RX7) (TT := TX7) (N := 8) (j := 1) (t0 := .array (.object "GleePrize$Recording")) hY hI rfl inG_X7 tyX7 tyX7_ok nmX7 (by decide) (gm_1 223 rfl rfl) rfl (by decide +kernel) rfl rfl (Nat.le_of_ble_eq_true rfl) rfl dX7_init_46 ?_
    refine k_iconst (x := 0) hY dX7_init_49 ?_
    refine k_istore (loc' := [(1, vi 0), (0, .ref a)]) hY dX7_init_50 (by decide) rfl ?_
    refine k_eq (E' := gup (gEX7 G b) 19 (gAr1 G b 0)) (fun i hi => ?_) ?_
    · unfold gup
      by_cases e : i = 19
      · rw [if_pos e, if_pos e]
        unfold gAr1
        refine congrArg (fun f => (.inl (G.2.2.2 3, 10, .inr (.inr (.inr (.inr f)))) : va_E)) (funext fun q => ?_)
        rw [if_neg (by omega)]
      · rw [if_neg e, if_neg e]
    refine gloop (α := Unit) (hi := 10) (fun i _ => 0 ≤ i) (fun i _ => gCW Y G (some a) b (.inr (7, [.ref (b + 0), .ref (b + 19), .null, .null, .null, .null, .null, .null])) (gup (gEX7 G b) 19 (gAr1 G b i)) (19 + 1 + 2 * i.toNat) (322 + 123 * i.toNat) 51 [(1, vi i), (0, .ref a)] []) ?_ ?_ 0 () (by omega) (by omega)
    · intro i _ hi h0 next
      refine k_iload hY dX7_init_51 0 rfl ?_
      refine k_bipush (x := 10) hY dX7_init_52 (by decide) ?_
      refine k_icge hY (rng_of (by omega) (by omega)) (rng_of (by omega) (by omega)) dX7_init_54 rfl (fun h => by omega) (fun _ => ?_)
      refine k_aload hY dX7_init_57 1 rfl ?_
      refine k_get (C := RX7) (TT := TX7) (N := 8) (j := 1) hY rfl inG_X7 (by decide) (gm_1 223 rfl rfl) rfl dX7_init_58 ?_
      refine k_iload hY dX7_init_61 0 rfl ?_
      refine k_new (ci := 4) (fs := [.null, .int 0, .int 0]) hY rfl inG_X4 tyX4 tyX4_ok (gm_1 42 rfl rfl) (gm_1 44 rfl rfl) (gm_1 3 rfl rfl) (fun j hj => by rcases (show j = 0 ∨ j = 1 ∨ j = 2 by omega) with rfl | rfl | rfl <;> rfl) (by omega) (by omega) dX7_init_62 ?_
      refine k_dup hY dX7_init_65 ?_
      refine k_callN (i0 := _) hY (fun l => n_X4 l G _ _) (by omega) (if_pos rfl) rfl (gn_1 45 rfl rfl) (gm_1 46 rfl rfl) (gm_1 3 rfl rfl) (gm_1 47 rfl rfl) ⟨by decide, by decide, by decide +kernel⟩ (by decide) (by decide) (Nat.le_of_ble_eq_true rfl) (by omega) (by omega) dX7_init_66 ?_
      refine k_catE ?_ ?_ ?_
      · unfold gup
        rw [if_neg (by omega)]
        unfold gEX7
        rw [if_neg (by omega), if_neg (by omega), if_neg (by omega), if_pos (by omega), if_pos (by omega)]
        try rfl
      · intro t ht
        unfold gup
        rw [if_neg (by omega)]
        unfold gEX7
        rw [if_neg (by omega), if_neg (by omega), if_neg (by omega), if_pos (by omega), if_neg (by omega)]
        try rfl
      refine k_aast (i0 := 19) (v0 := 19 + 1 + 2 * i.toNat) (ci := 4) (kd := 3) (N := 10) (C := RX4) (TT := TX4) (NN := 3) (vs := gFX4 (b + (19 + 1 + 2 * i.toNat + 1))) (f := fun j => if (j : Int) < i then some (b + (19 + 1 + 2 * j)) else none) hY (by omega) (if_pos rfl) (by omega) ?_ rfl rfl (by omega) (by decide) dX7_init_69 ?_
      · unfold gup
        rw [if_neg (by omega)]
        unfold gEX7
        rw [if_neg (by omega), if_neg (by omega), if_neg (by omega), if_pos (by omega), if_pos (by omega)]
      refine k_iinc (d := 1) (loc' := [(1, vi (i + 1)), (0, .ref a)]) hY dX7_init_70 0 rfl (by decide) rfl ?_
      refine k_goto (tgt := 51) hY dX7_init_73 rfl ?_
      refine k_eq (E' := gup (gEX7 G b) 19 (gAr1 G b (i + 1))) (fun t ht => ?_) ?_
      · unfold gup
        by_cases e : t = 19
        · rw [if_pos e, if_pos e]
          unfold gAr1
          refine congrArg (fun f => (.inl (G.2.2.2 3, 10, .inr (.inr (.inr (.inr f)))) : va_E)) (funext fun q => ?_)
          by_cases c1 : (q : Int) = i
          · rw [if_pos (by omega), if_pos c1, show i.toNat = q by omega]
          · rw [if_neg c1]
            by_cases c2 : (q : Int) < i
            · rw [if_pos (by omega), if_pos c2]
            · rw [if_neg (by omega), if_neg c2]
        · rw [if_neg e, if_neg e, if_neg e]
      · have hk := next () (by omega)
        rw [show (i + 1).toNat = i.toNat + 1 by omega] at hk
        exact k_to rfl (by omega) (by omega) hk
    · intro _ h0
      refine k_iload hY dX7_init_51 0 rfl ?_
      refine k_bipush (x := 10) hY dX7_init_52 (by decide) ?_
      refine k_icge (tgt := 76) hY (rng_of (by omega) (by omega)) (rng_of (by omega) (by omega)) dX7_init_54 rfl (fun _ => ?_) (fun h => by omega)
      refine k_eq (E' := gEX7 G b) (fun t ht => ?_) ?_
      · unfold gup
        by_cases e : t = 19
        · rw [if_pos e, e]; rfl
        · rw [if_neg e]
      refine k_to (n' := 40) (sl' := 1552) rfl rfl rfl ?_
      refine k_aload hY dX7_init_76 1 rfl ?_
      refine k_new (ci := 1) (fs := [.int 0, .int 0, .int 0, .int 0, .int 0]) hY rfl inG_X1 tyX1 tyX1_ok (gm_1 63 rfl rfl) (gm_1 64 rfl rfl) (gm_1 4 rfl rfl) (fun j hj => by rcases (show j = 0 ∨ j = 1 ∨ j = 2 ∨ j = 3 ∨ j = 4 by omega) with rfl | rfl | rfl | rfl | rfl <;> rfl) (by omega) (by omega) dX7_init_77 ?_
      refine k_dup hY dX7_init_80 ?_
      refine k_callN (i0 := _) hY (fun l => n_X1 l G _ _) (by omega) (if_pos rfl) rfl (gn_1 65 rfl rfl) (gm_1 66 rfl rfl) (gm_1 4 rfl rfl) (gm_1 67 rfl rfl) ⟨by decide, by decide, by decide +kernel⟩ (by decide) (by decide) (Nat.le_of_ble_eq_true rfl) (by omega) (by omega) dX7_init_81 ?_
      refine k_catE rfl (fun t ht => absurd ht (Nat.not_lt_zero t)) ?_
      refine k_to (n' := 41) (sl' := 1557) rfl rfl rfl ?_
      refine k_putE (fs' := [.ref (b + 0), .ref (b + 19), .ref (b + 40), .null, .null, .null, .null, .null]) (C := RX7) (TT := TX7) (N := 8) (j := 2) (t0 := .object "GleePrize$Measure") hY hI rfl inG_X7 tyX7 tyX7_ok nmX7 (by decide) (gm_1 224 rfl rfl) rfl (by decide +kernel) rfl rfl (Nat.le_of_ble_eq_true rfl) rfl dX7_init_84 ?_
      refine k_aload hY dX7_init_87 1 rfl ?_
      refine k_new (ci := 0) (fs := [.null, .null, .null, .null, .int 0, .int 0, .int 0, .int 0, .int 0, .null, .null, .null, .null]) hY rfl inG_X0 tyX0 tyX0_ok (gm_1 89 rfl rfl) (gm_1 90 rfl rfl) (gm_1 5 rfl rfl) (fun j hj => by rcases (show j = 0 ∨ j = 1 ∨ j = 2 ∨ j = 3 ∨ j = 4 ∨ j = 5 ∨ j = 6 ∨ j = 7 ∨ j = 8 ∨ j = 9 ∨ j = 10 ∨ j = 11 ∨ j = 12 by omega) with rfl | rfl | rfl | rfl | rfl | rfl | rfl | rfl | rfl | rfl | rfl | rfl | rfl <;> rfl) (by omega) (by omega) dX7_init_88 ?_
      refine k_dup hY dX7_init_91 ?_
      refine k_callN (i0 := _) hY (fun l => n_X0 l G _ _) (by omega) (if_pos rfl) rfl (gn_1 91 rfl rfl) (gm_1 92 rfl rfl) (gm_1 5 rfl rfl) (gm_1 93 rfl rfl) ⟨by decide, by decide, by decide +kernel⟩ (by decide) (by decide) (Nat.le_of_ble_eq_true rfl) (by omega) (by omega) dX7_init_92 ?_
      refine k_catE rfl ?_ ?_
      · intro t ht
        unfold gEX7
        rw [if_neg (by omega), if_neg (by omega), if_neg (by omega), if_neg (by omega), if_neg (by omega), if_neg (by omega), if_pos (by omega), show 41 + 1 + t - 42 = t by omega]
      refine k_to (n' := 75) (sl' := 5079) rfl rfl rfl ?_
      refine k_putE (fs' := [.ref (b + 0), .ref (b + 19), .ref (b + 40), .ref (b + 41), .null, .null, .null, .null]) (C := RX7) (TT := TX7) (N := 8) (j := 3) (t0 := .object "GleePrize$Laying") hY hI rfl inG_X7 tyX7 tyX7_ok nmX7 (by decide) (gm_1 225 rfl rfl) rfl (by decide +kernel) rfl rfl (Nat.le_of_ble_eq_true rfl) rfl dX7_init_95 ?_
      refine k_aload hY dX7_init_98 1 rfl ?_
      refine k_new (ci := 2) (fs := [.int 0, .null, .null]) hY rfl inG_X2 tyX2 tyX2_ok (gm_1 146 rfl rfl) (gm_1 147 rfl rfl) (gm_1 6 rfl rfl) (fun j hj => by rcases (show j = 0 ∨ j = 1 ∨ j = 2 by omega) with rfl | rfl | rfl <;> rfl) (by omega) (by omega) dX7_init_99 ?_
      refine k_dup hY dX7_init_102 ?_
      refine k_callN (i0 := _) hY (fun l => n_X2 l G _ _) (by omega) (if_pos rfl) rfl (gn_1 148 rfl rfl) (gm_1 149 rfl rfl) (gm_1 6 rfl rfl) (gm_1 150 rfl rfl) ⟨by decide, by decide, by decide +kernel⟩ (by decide) (by decide) (Nat.le_of_ble_eq_true rfl) (by omega) (by omega) dX7_init_103 ?_
      refine k_catE rfl ?_ ?_
      · intro t ht
        unfold gEX7
        rw [if_neg (by omega), if_neg (by omega), if_neg (by omega), if_neg (by omega), if_neg (by omega), if_neg (by omega), if_neg (by omega), if_neg (by omega), if_pos (by omega), show 75 + 1 + t - 76 = t by omega]
      refine k_to (n' := 87) (sl' := 5190) rfl rfl rfl ?_
      refine k_putE (fs' := [.ref (b + 0), .ref (b + 19), .ref (b + 40), .ref (b + 41), .ref (b + 75), .null, .null, .null]) (C := RX7) (TT := TX7) (N := 8) (j := 4) (t0 := .object "GleePrize$Panel") hY hI rfl inG_X7 tyX7 tyX7_ok nmX7 (by decide) (gm_1 226 rfl rfl) rfl (by decide +kernel) rfl rfl (Nat.le_of_ble_eq_true rfl) rfl dX7_init_106 ?_
      refine k_aload hY dX7_init_109 1 rfl ?_
      refine k_new (ci := 5) (fs := [.null, .null, .null, .null, .int 0]) hY rfl inG_X5 tyX5 tyX5_ok (gm_1 164 rfl rfl) (gm_1 165 rfl rfl) (gm_1 7 rfl rfl) (fun j hj => by rcases (show j = 0 ∨ j = 1 ∨ j = 2 ∨ j = 3 ∨ j = 4 by omega) with rfl | rfl | rfl | rfl | rfl <;> rfl) (by omega) (by omega) dX7_init_110 ?_
      refine k_dup hY dX7_init_113 ?_
      refine k_callN (i0 := _) hY (fun l => n_X5 l G _ _) (by omega) (if_pos rfl) rfl (gn_1 166 rfl rfl) (gm_1 167 rfl rfl) (gm_1 7 rfl rfl) (gm_1 168 rfl rfl) ⟨by decide, by decide, by decide +kernel⟩ (by decide) (by decide) (Nat.le_of_ble_eq_true rfl) (by omega) (by omega) dX7_init_114 ?_
      refine k_catE rfl ?_ ?_
      · intro t ht
        unfold gEX7
        rw [if_neg (by omega), if_neg (by omega), if_neg (by omega), if_neg (by omega), if_neg (by omega), if_neg (by omega), if_neg (by omega), if_neg (by omega), if_neg (by omega), if_neg (by omega), if_pos (by omega), show 87 + 1 + t - 88 = t by omega]
      refine k_to (n' := 92) (sl' := 5435) rfl rfl rfl ?_
      refine k_putE (fs' := [.ref (b + 0), .ref (b + 19), .ref (b + 40), .ref (b + 41), .ref (b + 75), .ref (b + 87), .null, .null]) (C := RX7) (TT := TX7) (N := 8) (j := 5) (t0 := .object "GleePrize$Roll") hY hI rfl inG_X7 tyX7 tyX7_ok nmX7 (by decide) (gm_1 227 rfl rfl) rfl (by decide +kernel) rfl rfl (Nat.le_of_ble_eq_true rfl) rfl dX7_init_117 ?_
      refine k_aload hY dX7_init_120 1 rfl ?_
      refine k_new (ci := 6) (fs := [.null, .int 0, .int 0, .int 0, .null, .null, .null, .null]) hY rfl inG_X6 tyX6 tyX6_ok (gm_1 187 rfl rfl) (gm_1 188 rfl rfl) (gm_1 8 rfl rfl) (fun j hj => by rcases (show j = 0 ∨ j = 1 ∨ j = 2 ∨ j = 3 ∨ j = 4 ∨ j = 5 ∨ j = 6 ∨ j = 7 by omega) with rfl | rfl | rfl | rfl | rfl | rfl | rfl | rfl <;> rfl) (by omega) (by omega) dX7_init_121 ?_
      refine k_dup hY dX7_init_124 ?_
      refine k_callN (i0 := _) hY (fun l => n_X6 l G _ _) (by omega) (if_pos rfl) rfl (gn_1 189 rfl rfl) (gm_1 190 rfl rfl) (gm_1 8 rfl rfl) (gm_1 191 rfl rfl) ⟨by decide, by decide, by decide +kernel⟩ (by decide) (by decide) (Nat.le_of_ble_eq_true rfl) (by omega) (by omega) dX7_init_125 ?_
      refine k_catE rfl ?_ ?_
      · intro t ht
        unfold gEX7
        rw [if_neg (by omega), if_neg (by omega), if_neg (by omega), if_neg (by omega), if_neg (by omega), if_neg (by omega), if_neg (by omega), if_neg (by omega), if_neg (by omega), if_neg (by omega), if_neg (by omega), if_neg (by omega), if_pos (by omega), show 92 + 1 + t - 93 = t by omega]
      refine k_to (n' := 98) (sl' := 5503) rfl rfl rfl ?_
      refine k_putE (fs' := [.ref (b + 0), .ref (b + 19), .ref (b + 40), .ref (b + 41), .ref (b + 75), .ref (b + 87), .ref (b + 92), .null]) (C := RX7) (TT := TX7) (N := 8) (j := 6) (t0 := .object "GleePrize$Timetable") hY hI rfl inG_X7 tyX7 tyX7_ok nmX7 (by decide) (gm_1 228 rfl rfl) rfl (by decide +kernel) rfl rfl (Nat.le_of_ble_eq_true rfl) rfl dX7_init_128 ?_
      refine k_aload hY dX7_init_131 1 rfl ?_
      refine k_bipush (x := 12) hY dX7_init_132 (by decide) ?_
      refine k_newaE (N := 12) (n' := 99) (sl' := 5515) hY (gm_1 41 rfl rfl) (by decide) (by decide) (by decide) rfl rfl (by decide) (by decide) rfl dX7_init_134 ?_
      refine k_putE (fs' := [.ref (b + 0), .ref (b + 19), .ref (b + 40), .ref (b + 41), .ref (b + 75), .ref (b + 87), .ref (b + 92), .ref (b + 98)]) (C := RX7) (TT := TX7) (N := 8) (j := 7) (t0 := .array .int) hY hI rfl inG_X7 tyX7 tyX7_ok nmX7 (by decide) (gm_1 229 rfl rfl) rfl (by decide +kernel) rfl rfl (Nat.le_of_ble_eq_true rfl) rfl dX7_init_136 ?_
      exact k_ret hY hI hQ (fun _ _ => rfl) dX7_init_139

