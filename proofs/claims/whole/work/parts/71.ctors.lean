/-! ===== the straight constructors ===== -/
def gEX3 (G : gG) (b : Nat) : Nat → va_E := fun i => .inl (G.2.2.2 0, 24, .inl (fun _ => 0))
def gFX3 (b : Nat) : List Value := [.ref (b + 0), .ref (b + 1), vi 0]
set_option maxRecDepth 100000 in
set_option maxHeartbeats 4000000 in
theorem n_X3 (l : Launch) (G : gG) (a b : Nat) : gNM l G yX3_init cX3_init 1 1 3 2 48 [.null, .null, .int 0] (gFX3 b) (gEX3 G b) a b := by
  refine gNM_of (plainFor_of_name (by decide)) rfl (Nat.le_of_ble_eq_true rfl) (fun Y hY hI hQ => ?_)
  refine k_aload hY dX3_init_0 0 rfl ?_
  refine k_objInit hY (gm_1 26 rfl rfl) (gm_1 18 rfl rfl) (gm_1 19 rfl rfl) (by decide) (by decide) dX3_init_1 ?_
  refine k_aload hY dX3_init_4 0 rfl ?_
  refine k_bipush (x := 24) hY dX3_init_5 (by decide) ?_
  refine k_newaE (N := 24) (n' := 1) (sl' := 24) hY (gm_1 41 rfl rfl) (by decide) (by decide) (by decide) rfl rfl (by decide) (by decide) rfl dX3_init_7 ?_
  refine k_putE (fs' := [.ref (b + 0), .null, .int 0]) (C := RX3) (TT := TX3) (N := 3) (j := 0) (t0 := .array .int) hY hI rfl inG_X3 tyX3 tyX3_ok nmX3 (by decide) (gm_1 27 rfl rfl) rfl (by decide +kernel) rfl rfl (Nat.le_of_ble_eq_true rfl) rfl dX3_init_9 ?_
  refine k_aload hY dX3_init_12 0 rfl ?_
  refine k_bipush (x := 24) hY dX3_init_13 (by decide) ?_
  refine k_newaE (N := 24) (n' := 2) (sl' := 48) hY (gm_1 41 rfl rfl) (by decide) (by decide) (by decide) rfl rfl (by decide) (by decide) rfl dX3_init_15 ?_
  refine k_putE (fs' := [.ref (b + 0), .ref (b + 1), .int 0]) (C := RX3) (TT := TX3) (N := 3) (j := 1) (t0 := .array .int) hY hI rfl inG_X3 tyX3 tyX3_ok nmX3 (by decide) (gm_1 29 rfl rfl) rfl (by decide +kernel) rfl rfl (Nat.le_of_ble_eq_true rfl) rfl dX3_init_17 ?_
  refine k_aload hY dX3_init_20 0 rfl ?_
  refine k_iconst (x := 0) hY dX3_init_21 ?_
  refine k_putE (fs' := [.ref (b + 0), .ref (b + 1), vi 0]) (C := RX3) (TT := TX3) (N := 3) (j := 2) (t0 := .int) hY hI rfl inG_X3 tyX3 tyX3_ok nmX3 (by decide) (gm_1 31 rfl rfl) rfl (by decide +kernel) rfl rfl (Nat.le_of_ble_eq_true rfl) rfl dX3_init_22 ?_
  exact k_ret hY hI hQ (fun _ _ => rfl) dX3_init_25
def gEX4 (G : gG) (b : Nat) : Nat → va_E := fun i => .inl (G.2.2.2 0, 120, .inl (fun _ => 0))
def gFX4 (b : Nat) : List Value := [.ref (b + 0), vi 0, vi 0]
set_option maxRecDepth 100000 in
set_option maxHeartbeats 4000000 in
theorem n_X4 (l : Launch) (G : gG) (a b : Nat) : gNM l G yX4_init cX4_init 1 1 4 1 120 [.null, .int 0, .int 0] (gFX4 b) (gEX4 G b) a b := by
  refine gNM_of (plainFor_of_name (by decide)) rfl (Nat.le_of_ble_eq_true rfl) (fun Y hY hI hQ => ?_)
  refine k_aload hY dX4_init_0 0 rfl ?_
  refine k_objInit hY (gm_1 48 rfl rfl) (gm_1 18 rfl rfl) (gm_1 19 rfl rfl) (by decide) (by decide) dX4_init_1 ?_
  refine k_aload hY dX4_init_4 0 rfl ?_
  refine k_bipush (x := 120) hY dX4_init_5 (by decide) ?_
  refine k_newaE (N := 120) (n' := 1) (sl' := 120) hY (gm_1 41 rfl rfl) (by decide) (by decide) (by decide) rfl rfl (by decide) (by decide) rfl dX4_init_7 ?_
  refine k_putE (fs' := [.ref (b + 0), .int 0, .int 0]) (C := RX4) (TT := TX4) (N := 3) (j := 0) (t0 := .array .int) hY hI rfl inG_X4 tyX4 tyX4_ok nmX4 (by decide) (gm_1 49 rfl rfl) rfl (by decide +kernel) rfl rfl (Nat.le_of_ble_eq_true rfl) rfl dX4_init_9 ?_
  refine k_aload hY dX4_init_12 0 rfl ?_
  refine k_iconst (x := 0) hY dX4_init_13 ?_
  refine k_putE (fs' := [.ref (b + 0), vi 0, .int 0]) (C := RX4) (TT := TX4) (N := 3) (j := 1) (t0 := .int) hY hI rfl inG_X4 tyX4 tyX4_ok nmX4 (by decide) (gm_1 51 rfl rfl) rfl (by decide +kernel) rfl rfl (Nat.le_of_ble_eq_true rfl) rfl dX4_init_14 ?_
  refine k_aload hY dX4_init_17 0 rfl ?_
  refine k_iconst (x := 0) hY dX4_init_18 ?_
  refine k_putE (fs' := [.ref (b + 0), vi 0, vi 0]) (C := RX4) (TT := TX4) (N := 3) (j := 2) (t0 := .int) hY hI rfl inG_X4 tyX4 tyX4_ok nmX4 (by decide) (gm_1 54 rfl rfl) rfl (by decide +kernel) rfl rfl (Nat.le_of_ble_eq_true rfl) rfl dX4_init_19 ?_
  exact k_ret hY hI hQ (fun _ _ => rfl) dX4_init_22
def gEX1 (G : gG) (b : Nat) : Nat → va_E := fun i => .inl (0, 0, .inl (fun _ => 0))
def gFX1 (b : Nat) : List Value := [vi 2, vi 20, vi 30, vi 400, vi 40]
set_option maxRecDepth 100000 in
set_option maxHeartbeats 4000000 in
theorem n_X1 (l : Launch) (G : gG) (a b : Nat) : gNM l G yX1_init cX1_init 1 1 1 0 0 [.int 0, .int 0, .int 0, .int 0, .int 0] (gFX1 b) (gEX1 G b) a b := by
  refine gNM_of (plainFor_of_name (by decide)) rfl (Nat.le_of_ble_eq_true rfl) (fun Y hY hI hQ => ?_)
  refine k_aload hY dX1_init_0 0 rfl ?_
  refine k_objInit hY (gm_1 68 rfl rfl) (gm_1 18 rfl rfl) (gm_1 19 rfl rfl) (by decide) (by decide) dX1_init_1 ?_
  refine k_aload hY dX1_init_4 0 rfl ?_
  refine k_iconst (x := 2) hY dX1_init_5 ?_
  refine k_putE (fs' := [vi 2, .int 0, .int 0, .int 0, .int 0]) (C := RX1) (TT := TX1) (N := 5) (j := 0) (t0 := .int) hY hI rfl inG_X1 tyX1 tyX1_ok nmX1 (by decide) (gm_1 69 rfl rfl) rfl (by decide +kernel) rfl rfl (Nat.le_of_ble_eq_true rfl) rfl dX1_init_6 ?_
  refine k_aload hY dX1_init_9 0 rfl ?_
  refine k_bipush (x := 20) hY dX1_init_10 (by decide) ?_
  refine k_putE (fs' := [vi 2, vi 20, .int 0, .int 0, .int 0]) (C := RX1) (TT := TX1) (N := 5) (j := 1) (t0 := .int) hY hI rfl inG_X1 tyX1 tyX1_ok nmX1 (by decide) (gm_1 71 rfl rfl) rfl (by decide +kernel) rfl rfl (Nat.le_of_ble_eq_true rfl) rfl dX1_init_12 ?_
  refine k_aload hY dX1_init_15 0 rfl ?_
  refine k_bipush (x := 30) hY dX1_init_16 (by decide) ?_
  refine k_putE (fs' := [vi 2, vi 20, vi 30, .int 0, .int 0]) (C := RX1) (TT := TX1) (N := 5) (j := 2) (t0 := .int) hY hI rfl inG_X1 tyX1 tyX1_ok nmX1 (by decide) (gm_1 72 rfl rfl) rfl (by decide +kernel) rfl rfl (Nat.le_of_ble_eq_true rfl) rfl dX1_init_18 ?_
  refine k_aload hY dX1_init_21 0 rfl ?_
  refine k_sipush (x := 400) hY dX1_init_22 (by decide) ?_
  refine k_putE (fs' := [vi 2, vi 20, vi 30, vi 400, .int 0]) (C := RX1) (TT := TX1) (N := 5) (j := 3) (t0 := .int) hY hI rfl inG_X1 tyX1 tyX1_ok nmX1 (by decide) (gm_1 74 rfl rfl) rfl (by decide +kernel) rfl rfl (Nat.le_of_ble_eq_true rfl) rfl dX1_init_25 ?_
  refine k_aload hY dX1_init_28 0 rfl ?_
  refine k_bipush (x := 40) hY dX1_init_29 (by decide) ?_
  refine k_putE (fs' := [vi 2, vi 20, vi 30, vi 400, vi 40]) (C := RX1) (TT := TX1) (N := 5) (j := 4) (t0 := .int) hY hI rfl inG_X1 tyX1 tyX1_ok nmX1 (by decide) (gm_1 76 rfl rfl) rfl (by decide +kernel) rfl rfl (Nat.le_of_ble_eq_true rfl) rfl dX1_init_31 ?_
  exact k_ret hY hI hQ (fun _ _ => rfl) dX1_init_34
def gEX0 (G : gG) (b : Nat) : Nat → va_E := fun i => if i < 4 then .inl (G.2.2.2 0, 24, .inl (fun _ => 0)) else if i < 5 then .inl (G.2.2.2 4, 25, .inr (.inr (.inr (.inr (fun i => if i < 25 then some (b + 5 + i) else none))))) else .inl (G.2.2.2 0, 121, .inl (fun _ => 0))
def gFX0 (b : Nat) : List Value := [.ref (b + 0), .ref (b + 1), .ref (b + 2), .ref (b + 3), vi 0, vi 0, vi 0, vi 0, vi (-1), .ref (b + 4), .ref (b + 30), .ref (b + 31), .ref (b + 32)]
set_option maxRecDepth 100000 in
set_option maxHeartbeats 4000000 in
theorem n_X0 (l : Launch) (G : gG) (a b : Nat) : gNM l G yX0_init cX0_init 1 1 0 33 3509 [.null, .null, .null, .null, .int 0, .int 0, .int 0, .int 0, .int 0, .null, .null, .null, .null] (gFX0 b) (gEX0 G b) a b := by
  refine gNM_of (plainFor_of_name (by decide)) rfl (Nat.le_of_ble_eq_true rfl) (fun Y hY hI hQ => ?_)
  refine k_aload hY dX0_init_0 0 rfl ?_
  refine k_objInit hY (gm_1 94 rfl rfl) (gm_1 18 rfl rfl) (gm_1 19 rfl rfl) (by decide) (by decide) dX0_init_1 ?_
  refine k_aload hY dX0_init_4 0 rfl ?_
  refine k_bipush (x := 24) hY dX0_init_5 (by decide) ?_
  refine k_newaE (N := 24) (n' := 1) (sl' := 24) hY (gm_1 41 rfl rfl) (by decide) (by decide) (by decide) rfl rfl (by decide) (by decide) rfl dX0_init_7 ?_
  refine k_putE (fs' := [.ref (b + 0), .null, .null, .null, .int 0, .int 0, .int 0, .int 0, .int 0, .null, .null, .null, .null]) (C := RX0) (TT := TX0) (N := 13) (j := 0) (t0 := .array .int) hY hI rfl inG_X0 tyX0 tyX0_ok nmX0 (by decide) (gm_1 97 rfl rfl) rfl (by decide +kernel) rfl rfl (Nat.le_of_ble_eq_true rfl) rfl dX0_init_9 ?_
  refine k_aload hY dX0_init_12 0 rfl ?_
  refine k_bipush (x := 24) hY dX0_init_13 (by decide) ?_
  refine k_newaE (N := 24) (n' := 2) (sl' := 48) hY (gm_1 41 rfl rfl) (by decide) (by decide) (by decide) rfl rfl (by decide) (by decide) rfl dX0_init_15 ?_
  refine k_putE (fs' := [.ref (b + 0), .ref (b + 1), .null, .null, .int 0, .int 0, .int 0, .int 0, .int 0, .null, .null, .null, .null]) (C := RX0) (TT := TX0) (N := 13) (j := 1) (t0 := .array .int) hY hI rfl inG_X0 tyX0 tyX0_ok nmX0 (by decide) (gm_1 99 rfl rfl) rfl (by decide +kernel) rfl rfl (Nat.le_of_ble_eq_true rfl) rfl dX0_init_17 ?_
  refine k_aload hY dX0_init_20 0 rfl ?_
  refine k_bipush (x := 24) hY dX0_init_21 (by decide) ?_
  refine k_newaE (N := 24) (n' := 3) (sl' := 72) hY (gm_1 41 rfl rfl) (by decide) (by decide) (by decide) rfl rfl (by decide) (by decide) rfl dX0_init_23 ?_
  refine k_putE (fs' := [.ref (b + 0), .ref (b + 1), .ref (b + 2), .null, .int 0, .int 0, .int 0, .int 0, .int 0, .null, .null, .null, .null]) (C := RX0) (TT := TX0) (N := 13) (j := 2) (t0 := .array .int) hY hI rfl inG_X0 tyX0 tyX0_ok nmX0 (by decide) (gm_1 101 rfl rfl) rfl (by decide +kernel) rfl rfl (Nat.le_of_ble_eq_true rfl) rfl dX0_init_25 ?_
  refine k_aload hY dX0_init_28 0 rfl ?_
  refine k_bipush (x := 24) hY dX0_init_29 (by decide) ?_
  refine k_newaE (N := 24) (n' := 4) (sl' := 96) hY (gm_1 41 rfl rfl) (by decide) (by decide) (by decide) rfl rfl (by decide) (by decide) rfl dX0_init_31 ?_
  refine k_putE (fs' := [.ref (b + 0), .ref (b + 1), .ref (b + 2), .ref (b + 3), .int 0, .int 0, .int 0, .int 0, .int 0, .null, .null, .null, .null]) (C := RX0) (TT := TX0) (N := 13) (j := 3) (t0 := .array .int) hY hI rfl inG_X0 tyX0 tyX0_ok nmX0 (by decide) (gm_1 103 rfl rfl) rfl (by decide +kernel) rfl rfl (Nat.le_of_ble_eq_true rfl) rfl dX0_init_33 ?_
  refine k_aload hY dX0_init_36 0 rfl ?_
  refine k_iconst (x := 0) hY dX0_init_37 ?_
  refine k_putE (fs' := [.ref (b + 0), .ref (b + 1), .ref (b + 2), .ref (b + 3), vi 0, .int 0, .int 0, .int 0, .int 0, .null, .null, .null, .null]) (C := RX0) (TT := TX0) (N := 13) (j := 4) (t0 := .int) hY hI rfl inG_X0 tyX0 tyX0_ok nmX0 (by decide) (gm_1 105 rfl rfl) rfl (by decide +kernel) rfl rfl (Nat.le_of_ble_eq_true rfl) rfl dX0_init_38 ?_
  refine k_aload hY dX0_init_41 0 rfl ?_
  refine k_iconst (x := 0) hY dX0_init_42 ?_
  refine k_putE (fs' := [.ref (b + 0), .ref (b + 1), .ref (b + 2), .ref (b + 3), vi 0, vi 0, .int 0, .int 0, .int 0, .null, .null, .null, .null]) (C := RX0) (TT := TX0) (N := 13) (j := 5) (t0 := .int) hY hI rfl inG_X0 tyX0 tyX0_ok nmX0 (by decide) (gm_1 107 rfl rfl) rfl (by decide +kernel) rfl rfl (Nat.le_of_ble_eq_true rfl) rfl dX0_init_43 ?_
  refine k_aload hY dX0_init_46 0 rfl ?_
  refine k_iconst (x := 0) hY dX0_init_47 ?_
  refine k_putE (fs' := [.ref (b + 0), .ref (b + 1), .ref (b + 2), .ref (b + 3), vi 0, vi 0, vi 0, .int 0, .int 0, .null, .null, .null, .null]) (C := RX0) (TT := TX0) (N := 13) (j := 6) (t0 := .int) hY hI rfl inG_X0 tyX0 tyX0_ok nmX0 (by decide) (gm_1 109 rfl rfl) rfl (by decide +kernel) rfl rfl (Nat.le_of_ble_eq_true rfl) rfl dX0_init_48 ?_
  refine k_aload hY dX0_init_51 0 rfl ?_
  refine k_iconst (x := 0) hY dX0_init_52 ?_
  refine k_putE (fs' := [.ref (b + 0), .ref (b + 1), .ref (b + 2), .ref (b + 3), vi 0, vi 0, vi 0, vi 0, .int 0, .null, .null, .null, .null]) (C := RX0) (TT := TX0) (N := 13) (j := 7) (t0 := .int) hY hI rfl inG_X0 tyX0 tyX0_ok nmX0 (by decide) (gm_1 111 rfl rfl) rfl (by decide +kernel) rfl rfl (Nat.le_of_ble_eq_true rfl) rfl dX0_init_53 ?_
  refine k_aload hY dX0_init_56 0 rfl ?_
  refine k_iconst (x := (-1)) hY dX0_init_57 ?_
  refine k_putE (fs' := [.ref (b + 0), .ref (b + 1), .ref (b + 2), .ref (b + 3), vi 0, vi 0, vi 0, vi 0, vi (-1), .null, .null, .null, .null]) (C := RX0) (TT := TX0) (N := 13) (j := 8) (t0 := .int) hY hI rfl inG_X0 tyX0 tyX0_ok nmX0 (by decide) (gm_1 113 rfl rfl) rfl (by decide +kernel) rfl rfl (Nat.le_of_ble_eq_true rfl) rfl dX0_init_58 ?_
  refine k_aload hY dX0_init_61 0 rfl ?_
  refine k_bipush (x := 25) hY dX0_init_62 (by decide) ?_
  refine k_bipush (x := 121) hY dX0_init_64 (by decide) ?_
  refine k_mnaE (N := 25) (M := 121) (n' := 30) (sl' := 3146) hY (gm_1 95 rfl rfl) (gm_1 41 rfl rfl) (by decide) (by decide) (by decide) (by decide) (by decide) (by decide) (by decide) rfl rfl (by decide) (by decide) rfl (fun i hi => by unfold gEX0; rw [if_neg (by omega), if_neg (by omega)]) dX0_init_66 ?_
  refine k_putE (fs' := [.ref (b + 0), .ref (b + 1), .ref (b + 2), .ref (b + 3), vi 0, vi 0, vi 0, vi 0, vi (-1), .ref (b + 4), .null, .null, .null]) (C := RX0) (TT := TX0) (N := 13) (j := 9) (t0 := .array (.array .int)) hY hI rfl inG_X0 tyX0 tyX0_ok nmX0 (by decide) (gm_1 115 rfl rfl) rfl (by decide +kernel) rfl rfl (Nat.le_of_ble_eq_true rfl) rfl dX0_init_70 ?_
  refine k_aload hY dX0_init_73 0 rfl ?_
  refine k_bipush (x := 121) hY dX0_init_74 (by decide) ?_
  refine k_newaE (N := 121) (n' := 31) (sl' := 3267) hY (gm_1 41 rfl rfl) (by decide) (by decide) (by decide) rfl rfl (by decide) (by decide) rfl dX0_init_76 ?_
  refine k_putE (fs' := [.ref (b + 0), .ref (b + 1), .ref (b + 2), .ref (b + 3), vi 0, vi 0, vi 0, vi 0, vi (-1), .ref (b + 4), .ref (b + 30), .null, .null]) (C := RX0) (TT := TX0) (N := 13) (j := 10) (t0 := .array .int) hY hI rfl inG_X0 tyX0 tyX0_ok nmX0 (by decide) (gm_1 116 rfl rfl) rfl (by decide +kernel) rfl rfl (Nat.le_of_ble_eq_true rfl) rfl dX0_init_78 ?_
  refine k_aload hY dX0_init_81 0 rfl ?_
  refine k_bipush (x := 121) hY dX0_init_82 (by decide) ?_
  refine k_newaE (N := 121) (n' := 32) (sl' := 3388) hY (gm_1 41 rfl rfl) (by decide) (by decide) (by decide) rfl rfl (by decide) (by decide) rfl dX0_init_84 ?_
  refine k_putE (fs' := [.ref (b + 0), .ref (b + 1), .ref (b + 2), .ref (b + 3), vi 0, vi 0, vi 0, vi 0, vi (-1), .ref (b + 4), .ref (b + 30), .ref (b + 31), .null]) (C := RX0) (TT := TX0) (N := 13) (j := 11) (t0 := .array .int) hY hI rfl inG_X0 tyX0 tyX0_ok nmX0 (by decide) (gm_1 117 rfl rfl) rfl (by decide +kernel) rfl rfl (Nat.le_of_ble_eq_true rfl) rfl dX0_init_86 ?_
  refine k_aload hY dX0_init_89 0 rfl ?_
  refine k_bipush (x := 121) hY dX0_init_90 (by decide) ?_
  refine k_newaE (N := 121) (n' := 33) (sl' := 3509) hY (gm_1 41 rfl rfl) (by decide) (by decide) (by decide) rfl rfl (by decide) (by decide) rfl dX0_init_92 ?_
  refine k_putE (fs' := [.ref (b + 0), .ref (b + 1), .ref (b + 2), .ref (b + 3), vi 0, vi 0, vi 0, vi 0, vi (-1), .ref (b + 4), .ref (b + 30), .ref (b + 31), .ref (b + 32)]) (C := RX0) (TT := TX0) (N := 13) (j := 12) (t0 := .array .int) hY hI rfl inG_X0 tyX0 tyX0_ok nmX0 (by decide) (gm_1 118 rfl rfl) rfl (by decide +kernel) rfl rfl (Nat.le_of_ble_eq_true rfl) rfl dX0_init_94 ?_
  exact k_ret hY hI hQ (fun _ _ => rfl) dX0_init_97
def gEX2 (G : gG) (b : Nat) : Nat → va_E := fun i => if i < 1 then .inl (G.2.2.2 0, 9, .inl (fun _ => 0)) else if i < 2 then .inl (G.2.2.2 4, 9, .inr (.inr (.inr (.inr (fun i => if i < 9 then some (b + 2 + i) else none))))) else .inl (G.2.2.2 0, 10, .inl (fun _ => 0))
def gFX2 (b : Nat) : List Value := [vi 0, .ref (b + 0), .ref (b + 1)]
set_option maxRecDepth 100000 in
set_option maxHeartbeats 4000000 in
theorem n_X2 (l : Launch) (G : gG) (a b : Nat) : gNM l G yX2_init cX2_init 1 1 2 11 108 [.int 0, .null, .null] (gFX2 b) (gEX2 G b) a b := by
  refine gNM_of (plainFor_of_name (by decide)) rfl (Nat.le_of_ble_eq_true rfl) (fun Y hY hI hQ => ?_)
  refine k_aload hY dX2_init_0 0 rfl ?_
  refine k_objInit hY (gm_1 151 rfl rfl) (gm_1 18 rfl rfl) (gm_1 19 rfl rfl) (by decide) (by decide) dX2_init_1 ?_
  refine k_aload hY dX2_init_4 0 rfl ?_
  refine k_iconst (x := 0) hY dX2_init_5 ?_
  refine k_putE (fs' := [vi 0, .null, .null]) (C := RX2) (TT := TX2) (N := 3) (j := 0) (t0 := .int) hY hI rfl inG_X2 tyX2 tyX2_ok nmX2 (by decide) (gm_1 153 rfl rfl) rfl (by decide +kernel) rfl rfl (Nat.le_of_ble_eq_true rfl) rfl dX2_init_6 ?_
  refine k_aload hY dX2_init_9 0 rfl ?_
  refine k_bipush (x := 9) hY dX2_init_10 (by decide) ?_
  refine k_newaE (N := 9) (n' := 1) (sl' := 9) hY (gm_1 41 rfl rfl) (by decide) (by decide) (by decide) rfl rfl (by decide) (by decide) rfl dX2_init_12 ?_
  refine k_putE (fs' := [vi 0, .ref (b + 0), .null]) (C := RX2) (TT := TX2) (N := 3) (j := 1) (t0 := .array .int) hY hI rfl inG_X2 tyX2 tyX2_ok nmX2 (by decide) (gm_1 155 rfl rfl) rfl (by decide +kernel) rfl rfl (Nat.le_of_ble_eq_true rfl) rfl dX2_init_14 ?_
  refine k_aload hY dX2_init_17 0 rfl ?_
  refine k_bipush (x := 9) hY dX2_init_18 (by decide) ?_
  refine k_bipush (x := 10) hY dX2_init_20 (by decide) ?_
  refine k_mnaE (N := 9) (M := 10) (n' := 11) (sl' := 108) hY (gm_1 152 rfl rfl) (gm_1 41 rfl rfl) (by decide) (by decide) (by decide) (by decide) (by decide) (by decide) (by decide) rfl rfl (by decide) (by decide) rfl (fun i hi => by unfold gEX2; rw [if_neg (by omega), if_neg (by omega)]) dX2_init_22 ?_
  refine k_putE (fs' := [vi 0, .ref (b + 0), .ref (b + 1)]) (C := RX2) (TT := TX2) (N := 3) (j := 2) (t0 := .array (.array .int)) hY hI rfl inG_X2 tyX2 tyX2_ok nmX2 (by decide) (gm_1 156 rfl rfl) rfl (by decide +kernel) rfl rfl (Nat.le_of_ble_eq_true rfl) rfl dX2_init_26 ?_
  exact k_ret hY hI hQ (fun _ _ => rfl) dX2_init_29
def gEX5 (G : gG) (b : Nat) : Nat → va_E := fun i => .inl (G.2.2.2 0, 60, .inl (fun _ => 0))
def gFX5 (b : Nat) : List Value := [.ref (b + 0), .ref (b + 1), .ref (b + 2), .ref (b + 3), vi 0]
set_option maxRecDepth 100000 in
set_option maxHeartbeats 4000000 in
theorem n_X5 (l : Launch) (G : gG) (a b : Nat) : gNM l G yX5_init cX5_init 1 1 5 4 240 [.null, .null, .null, .null, .int 0] (gFX5 b) (gEX5 G b) a b := by
  refine gNM_of (plainFor_of_name (by decide)) rfl (Nat.le_of_ble_eq_true rfl) (fun Y hY hI hQ => ?_)
  refine k_aload hY dX5_init_0 0 rfl ?_
  refine k_objInit hY (gm_1 169 rfl rfl) (gm_1 18 rfl rfl) (gm_1 19 rfl rfl) (by decide) (by decide) dX5_init_1 ?_
  refine k_aload hY dX5_init_4 0 rfl ?_
  refine k_bipush (x := 60) hY dX5_init_5 (by decide) ?_
  refine k_newaE (N := 60) (n' := 1) (sl' := 60) hY (gm_1 41 rfl rfl) (by decide) (by decide) (by decide) rfl rfl (by decide) (by decide) rfl dX5_init_7 ?_
  refine k_putE (fs' := [.ref (b + 0), .null, .null, .null, .int 0]) (C := RX5) (TT := TX5) (N := 5) (j := 0) (t0 := .array .int) hY hI rfl inG_X5 tyX5 tyX5_ok nmX5 (by decide) (gm_1 170 rfl rfl) rfl (by decide +kernel) rfl rfl (Nat.le_of_ble_eq_true rfl) rfl dX5_init_9 ?_
  refine k_aload hY dX5_init_12 0 rfl ?_
  refine k_bipush (x := 60) hY dX5_init_13 (by decide) ?_
  refine k_newaE (N := 60) (n' := 2) (sl' := 120) hY (gm_1 41 rfl rfl) (by decide) (by decide) (by decide) rfl rfl (by decide) (by decide) rfl dX5_init_15 ?_
  refine k_putE (fs' := [.ref (b + 0), .ref (b + 1), .null, .null, .int 0]) (C := RX5) (TT := TX5) (N := 5) (j := 1) (t0 := .array .int) hY hI rfl inG_X5 tyX5 tyX5_ok nmX5 (by decide) (gm_1 171 rfl rfl) rfl (by decide +kernel) rfl rfl (Nat.le_of_ble_eq_true rfl) rfl dX5_init_17 ?_
  refine k_aload hY dX5_init_20 0 rfl ?_
  refine k_bipush (x := 60) hY dX5_init_21 (by decide) ?_
  refine k_newaE (N := 60) (n' := 3) (sl' := 180) hY (gm_1 41 rfl rfl) (by decide) (by decide) (by decide) rfl rfl (by decide) (by decide) rfl dX5_init_23 ?_
  refine k_putE (fs' := [.ref (b + 0), .ref (b + 1), .ref (b + 2), .null, .int 0]) (C := RX5) (TT := TX5) (N := 5) (j := 2) (t0 := .array .int) hY hI rfl inG_X5 tyX5 tyX5_ok nmX5 (by decide) (gm_1 172 rfl rfl) rfl (by decide +kernel) rfl rfl (Nat.le_of_ble_eq_true rfl) rfl dX5_init_25 ?_
  refine k_aload hY dX5_init_28 0 rfl ?_
  refine k_bipush (x := 60) hY dX5_init_29 (by decide) ?_
  refine k_newaE (N := 60) (n' := 4) (sl' := 240) hY (gm_1 41 rfl rfl) (by decide) (by decide) (by decide) rfl rfl (by decide) (by decide) rfl dX5_init_31 ?_
  refine k_putE (fs' := [.ref (b + 0), .ref (b + 1), .ref (b + 2), .ref (b + 3), .int 0]) (C := RX5) (TT := TX5) (N := 5) (j := 3) (t0 := .array .int) hY hI rfl inG_X5 tyX5 tyX5_ok nmX5 (by decide) (gm_1 173 rfl rfl) rfl (by decide +kernel) rfl rfl (Nat.le_of_ble_eq_true rfl) rfl dX5_init_33 ?_
  refine k_aload hY dX5_init_36 0 rfl ?_
  refine k_iconst (x := 0) hY dX5_init_37 ?_
  refine k_putE (fs' := [.ref (b + 0), .ref (b + 1), .ref (b + 2), .ref (b + 3), vi 0]) (C := RX5) (TT := TX5) (N := 5) (j := 4) (t0 := .int) hY hI rfl inG_X5 tyX5 tyX5_ok nmX5 (by decide) (gm_1 174 rfl rfl) rfl (by decide +kernel) rfl rfl (Nat.le_of_ble_eq_true rfl) rfl dX5_init_38 ?_
  exact k_ret hY hI hQ (fun _ _ => rfl) dX5_init_41
def gEX6 (G : gG) (b : Nat) : Nat → va_E := fun i => .inl (G.2.2.2 0, 12, .inl (fun _ => 0))
def gFX6 (b : Nat) : List Value := [.ref (b + 0), vi 0, vi 2, vi 0, .ref (b + 1), .ref (b + 2), .ref (b + 3), .ref (b + 4)]
set_option maxRecDepth 100000 in
set_option maxHeartbeats 4000000 in
theorem n_X6 (l : Launch) (G : gG) (a b : Nat) : gNM l G yX6_init cX6_init 1 1 6 5 60 [.null, .int 0, .int 0, .int 0, .null, .null, .null, .null] (gFX6 b) (gEX6 G b) a b := by
  refine gNM_of (plainFor_of_name (by decide)) rfl (Nat.le_of_ble_eq_true rfl) (fun Y hY hI hQ => ?_)
  refine k_aload hY dX6_init_0 0 rfl ?_
  refine k_objInit hY (gm_1 192 rfl rfl) (gm_1 18 rfl rfl) (gm_1 19 rfl rfl) (by decide) (by decide) dX6_init_1 ?_
  refine k_aload hY dX6_init_4 0 rfl ?_
  refine k_bipush (x := 12) hY dX6_init_5 (by decide) ?_
  refine k_newaE (N := 12) (n' := 1) (sl' := 12) hY (gm_1 41 rfl rfl) (by decide) (by decide) (by decide) rfl rfl (by decide) (by decide) rfl dX6_init_7 ?_
  refine k_putE (fs' := [.ref (b + 0), .int 0, .int 0, .int 0, .null, .null, .null, .null]) (C := RX6) (TT := TX6) (N := 8) (j := 0) (t0 := .array .int) hY hI rfl inG_X6 tyX6 tyX6_ok nmX6 (by decide) (gm_1 193 rfl rfl) rfl (by decide +kernel) rfl rfl (Nat.le_of_ble_eq_true rfl) rfl dX6_init_9 ?_
  refine k_aload hY dX6_init_12 0 rfl ?_
  refine k_iconst (x := 0) hY dX6_init_13 ?_
  refine k_putE (fs' := [.ref (b + 0), vi 0, .int 0, .int 0, .null, .null, .null, .null]) (C := RX6) (TT := TX6) (N := 8) (j := 1) (t0 := .int) hY hI rfl inG_X6 tyX6 tyX6_ok nmX6 (by decide) (gm_1 195 rfl rfl) rfl (by decide +kernel) rfl rfl (Nat.le_of_ble_eq_true rfl) rfl dX6_init_14 ?_
  refine k_aload hY dX6_init_17 0 rfl ?_
  refine k_iconst (x := 2) hY dX6_init_18 ?_
  refine k_putE (fs' := [.ref (b + 0), vi 0, vi 2, .int 0, .null, .null, .null, .null]) (C := RX6) (TT := TX6) (N := 8) (j := 2) (t0 := .int) hY hI rfl inG_X6 tyX6 tyX6_ok nmX6 (by decide) (gm_1 197 rfl rfl) rfl (by decide +kernel) rfl rfl (Nat.le_of_ble_eq_true rfl) rfl dX6_init_19 ?_
  refine k_aload hY dX6_init_22 0 rfl ?_
  refine k_iconst (x := 0) hY dX6_init_23 ?_
  refine k_putE (fs' := [.ref (b + 0), vi 0, vi 2, vi 0, .null, .null, .null, .null]) (C := RX6) (TT := TX6) (N := 8) (j := 3) (t0 := .int) hY hI rfl inG_X6 tyX6 tyX6_ok nmX6 (by decide) (gm_1 199 rfl rfl) rfl (by decide +kernel) rfl rfl (Nat.le_of_ble_eq_true rfl) rfl dX6_init_24 ?_
  refine k_aload hY dX6_init_27 0 rfl ?_
  refine k_bipush (x := 12) hY dX6_init_28 (by decide) ?_
  refine k_newaE (N := 12) (n' := 2) (sl' := 24) hY (gm_1 41 rfl rfl) (by decide) (by decide) (by decide) rfl rfl (by decide) (by decide) rfl dX6_init_30 ?_
  refine k_putE (fs' := [.ref (b + 0), vi 0, vi 2, vi 0, .ref (b + 1), .null, .null, .null]) (C := RX6) (TT := TX6) (N := 8) (j := 4) (t0 := .array .int) hY hI rfl inG_X6 tyX6 tyX6_ok nmX6 (by decide) (gm_1 201 rfl rfl) rfl (by decide +kernel) rfl rfl (Nat.le_of_ble_eq_true rfl) rfl dX6_init_32 ?_
  refine k_aload hY dX6_init_35 0 rfl ?_
  refine k_bipush (x := 12) hY dX6_init_36 (by decide) ?_
  refine k_newaE (N := 12) (n' := 3) (sl' := 36) hY (gm_1 41 rfl rfl) (by decide) (by decide) (by decide) rfl rfl (by decide) (by decide) rfl dX6_init_38 ?_
  refine k_putE (fs' := [.ref (b + 0), vi 0, vi 2, vi 0, .ref (b + 1), .ref (b + 2), .null, .null]) (C := RX6) (TT := TX6) (N := 8) (j := 5) (t0 := .array .int) hY hI rfl inG_X6 tyX6 tyX6_ok nmX6 (by decide) (gm_1 202 rfl rfl) rfl (by decide +kernel) rfl rfl (Nat.le_of_ble_eq_true rfl) rfl dX6_init_40 ?_
  refine k_aload hY dX6_init_43 0 rfl ?_
  refine k_bipush (x := 12) hY dX6_init_44 (by decide) ?_
  refine k_newaE (N := 12) (n' := 4) (sl' := 48) hY (gm_1 41 rfl rfl) (by decide) (by decide) (by decide) rfl rfl (by decide) (by decide) rfl dX6_init_46 ?_
  refine k_putE (fs' := [.ref (b + 0), vi 0, vi 2, vi 0, .ref (b + 1), .ref (b + 2), .ref (b + 3), .null]) (C := RX6) (TT := TX6) (N := 8) (j := 6) (t0 := .array .int) hY hI rfl inG_X6 tyX6 tyX6_ok nmX6 (by decide) (gm_1 203 rfl rfl) rfl (by decide +kernel) rfl rfl (Nat.le_of_ble_eq_true rfl) rfl dX6_init_48 ?_
  refine k_aload hY dX6_init_51 0 rfl ?_
  refine k_bipush (x := 12) hY dX6_init_52 (by decide) ?_
  refine k_newaE (N := 12) (n' := 5) (sl' := 60) hY (gm_1 41 rfl rfl) (by decide) (by decide) (by decide) rfl rfl (by decide) (by decide) rfl dX6_init_54 ?_
  refine k_putE (fs' := [.ref (b + 0), vi 0, vi 2, vi 0, .ref (b + 1), .ref (b + 2), .ref (b + 3), .ref (b + 4)]) (C := RX6) (TT := TX6) (N := 8) (j := 7) (t0 := .array .int) hY hI rfl inG_X6 tyX6 tyX6_ok nmX6 (by decide) (gm_1 204 rfl rfl) rfl (by decide +kernel) rfl rfl (Nat.le_of_ble_eq_true rfl) rfl dX6_init_56 ?_
  exact k_ret hY hI hQ (fun _ _ => rfl) dX6_init_59
def gEX8 (G : gG) (b : Nat) : Nat → va_E := fun i => if i < 1 then .inl (G.2.2.2 0, 6, .inl (fun _ => 0)) else if i < 3 then .inl (G.2.2.2 0, 144, .inl (fun _ => 0)) else if i < 5 then .inl (G.2.2.2 0, 10, .inl (fun _ => 0)) else if i < 6 then .inl (G.2.2.2 0, 1200, .inl (fun _ => 0)) else if i < 7 then .inl (G.2.2.2 0, 3025, .inl (fun _ => 0)) else if i < 10 then .inl (G.2.2.2 0, 24, .inl (fun _ => 0)) else if i < 11 then .inl (G.2.2.2 1, 24, .inl (fun _ => 0)) else if i < 13 then .inl (G.2.2.2 0, 9, .inl (fun _ => 0)) else if i < 14 then .inl (G.2.2.2 0, 90, .inl (fun _ => 0)) else if i < 15 then .inl (G.2.2.2 0, 10, .inl (fun _ => 0)) else if i < 19 then .inl (G.2.2.2 0, 60, .inl (fun _ => 0)) else if i < 22 then .inl (G.2.2.2 0, 12, .inl (fun _ => 0)) else if i < 23 then .inl (G.2.2.2 1, 144, .inl (fun _ => 0)) else .inl (G.2.2.2 0, 12, .inl (fun _ => 0))
def gFX8 (b : Nat) : List Value := [.ref (b + 0), .ref (b + 1), .ref (b + 2), .ref (b + 3), .ref (b + 4), .ref (b + 5), vi 2, vi 20, vi 30, vi 400, vi 40, .ref (b + 6), .ref (b + 7), .ref (b + 8), .ref (b + 9), .ref (b + 10), .int 0, .ref (b + 11), .ref (b + 12), .ref (b + 13), .ref (b + 14), .int 0, .ref (b + 15), .ref (b + 16), .ref (b + 17), .ref (b + 18), .int 0, .ref (b + 19), vi 2, .int 0, .ref (b + 20), .ref (b + 21), .ref (b + 22), .ref (b + 23)]
set_option maxRecDepth 100000 in
set_option maxHeartbeats 4000000 in
theorem n_X8 (l : Launch) (G : gG) (a b : Nat) : gNM l G yX8_init cX8_init 1 1 8 24 5185 [.null, .null, .null, .null, .null, .null, .int 0, .int 0, .int 0, .int 0, .int 0, .null, .null, .null, .null, .null, .int 0, .null, .null, .null, .null, .int 0, .null, .null, .null, .null, .int 0, .null, .int 0, .int 0, .null, .null, .null, .null] (gFX8 b) (gEX8 G b) a b := by
  refine gNM_of (plainFor_of_name (by decide)) rfl (Nat.le_of_ble_eq_true rfl) (fun Y hY hI hQ => ?_)
  refine k_aload hY dX8_init_0 0 rfl ?_
  refine k_objInit hY (gm_3 37 rfl rfl) (gm_1 18 rfl rfl) (gm_1 19 rfl rfl) (by decide) (by decide) dX8_init_1 ?_
  refine k_aload hY dX8_init_4 0 rfl ?_
  refine k_bipush (x := 6) hY dX8_init_5 (by decide) ?_
  refine k_newaE (N := 6) (n' := 1) (sl' := 6) hY (gm_1 41 rfl rfl) (by decide) (by decide) (by decide) rfl rfl (by decide) (by decide) rfl dX8_init_7 ?_
  refine k_putE (fs' := [.ref (b + 0), .null, .null, .null, .null, .null, .int 0, .int 0, .int 0, .int 0, .int 0, .null, .null, .null, .null, .null, .int 0, .null, .null, .null, .null, .int 0, .null, .null, .null, .null, .int 0, .null, .int 0, .int 0, .null, .null, .null, .null]) (C := RX8) (TT := TX8) (N := 34) (j := 0) (t0 := .array .int) hY hI rfl inG_X8 tyX8 tyX8_ok nmX8 (by decide) (gm_3 38 rfl rfl) rfl (by decide +kernel) rfl rfl (Nat.le_of_ble_eq_true rfl) rfl dX8_init_9 ?_
  refine k_aload hY dX8_init_12 0 rfl ?_
  refine k_sipush (x := 144) hY dX8_init_13 (by decide) ?_
  refine k_newaE (N := 144) (n' := 2) (sl' := 150) hY (gm_1 41 rfl rfl) (by decide) (by decide) (by decide) rfl rfl (by decide) (by decide) rfl dX8_init_16 ?_
  refine k_putE (fs' := [.ref (b + 0), .ref (b + 1), .null, .null, .null, .null, .int 0, .int 0, .int 0, .int 0, .int 0, .null, .null, .null, .null, .null, .int 0, .null, .null, .null, .null, .int 0, .null, .null, .null, .null, .int 0, .null, .int 0, .int 0, .null, .null, .null, .null]) (C := RX8) (TT := TX8) (N := 34) (j := 1) (t0 := .array .int) hY hI rfl inG_X8 tyX8 tyX8_ok nmX8 (by decide) (gm_3 39 rfl rfl) rfl (by decide +kernel) rfl rfl (Nat.le_of_ble_eq_true rfl) rfl dX8_init_18 ?_
  refine k_aload hY dX8_init_21 0 rfl ?_
  refine k_sipush (x := 144) hY dX8_init_22 (by decide) ?_
  refine k_newaE (N := 144) (n' := 3) (sl' := 294) hY (gm_1 41 rfl rfl) (by decide) (by decide) (by decide) rfl rfl (by decide) (by decide) rfl dX8_init_25 ?_
  refine k_putE (fs' := [.ref (b + 0), .ref (b + 1), .ref (b + 2), .null, .null, .null, .int 0, .int 0, .int 0, .int 0, .int 0, .null, .null, .null, .null, .null, .int 0, .null, .null, .null, .null, .int 0, .null, .null, .null, .null, .int 0, .null, .int 0, .int 0, .null, .null, .null, .null]) (C := RX8) (TT := TX8) (N := 34) (j := 2) (t0 := .array .int) hY hI rfl inG_X8 tyX8 tyX8_ok nmX8 (by decide) (gm_3 40 rfl rfl) rfl (by decide +kernel) rfl rfl (Nat.le_of_ble_eq_true rfl) rfl dX8_init_27 ?_
  refine k_aload hY dX8_init_30 0 rfl ?_
  refine k_bipush (x := 10) hY dX8_init_31 (by decide) ?_
  refine k_newaE (N := 10) (n' := 4) (sl' := 304) hY (gm_1 41 rfl rfl) (by decide) (by decide) (by decide) rfl rfl (by decide) (by decide) rfl dX8_init_33 ?_
  refine k_putE (fs' := [.ref (b + 0), .ref (b + 1), .ref (b + 2), .ref (b + 3), .null, .null, .int 0, .int 0, .int 0, .int 0, .int 0, .null, .null, .null, .null, .null, .int 0, .null, .null, .null, .null, .int 0, .null, .null, .null, .null, .int 0, .null, .int 0, .int 0, .null, .null, .null, .null]) (C := RX8) (TT := TX8) (N := 34) (j := 3) (t0 := .array .int) hY hI rfl inG_X8 tyX8 tyX8_ok nmX8 (by decide) (gm_3 41 rfl rfl) rfl (by decide +kernel) rfl rfl (Nat.le_of_ble_eq_true rfl) rfl dX8_init_35 ?_
  refine k_aload hY dX8_init_38 0 rfl ?_
  refine k_bipush (x := 10) hY dX8_init_39 (by decide) ?_
  refine k_newaE (N := 10) (n' := 5) (sl' := 314) hY (gm_1 41 rfl rfl) (by decide) (by decide) (by decide) rfl rfl (by decide) (by decide) rfl dX8_init_41 ?_
  refine k_putE (fs' := [.ref (b + 0), .ref (b + 1), .ref (b + 2), .ref (b + 3), .ref (b + 4), .null, .int 0, .int 0, .int 0, .int 0, .int 0, .null, .null, .null, .null, .null, .int 0, .null, .null, .null, .null, .int 0, .null, .null, .null, .null, .int 0, .null, .int 0, .int 0, .null, .null, .null, .null]) (C := RX8) (TT := TX8) (N := 34) (j := 4) (t0 := .array .int) hY hI rfl inG_X8 tyX8 tyX8_ok nmX8 (by decide) (gm_3 42 rfl rfl) rfl (by decide +kernel) rfl rfl (Nat.le_of_ble_eq_true rfl) rfl dX8_init_43 ?_
  refine k_aload hY dX8_init_46 0 rfl ?_
  refine k_sipush (x := 1200) hY dX8_init_47 (by decide) ?_
  refine k_newaE (N := 1200) (n' := 6) (sl' := 1514) hY (gm_1 41 rfl rfl) (by decide) (by decide) (by decide) rfl rfl (by decide) (by decide) rfl dX8_init_50 ?_
  refine k_putE (fs' := [.ref (b + 0), .ref (b + 1), .ref (b + 2), .ref (b + 3), .ref (b + 4), .ref (b + 5), .int 0, .int 0, .int 0, .int 0, .int 0, .null, .null, .null, .null, .null, .int 0, .null, .null, .null, .null, .int 0, .null, .null, .null, .null, .int 0, .null, .int 0, .int 0, .null, .null, .null, .null]) (C := RX8) (TT := TX8) (N := 34) (j := 5) (t0 := .array .int) hY hI rfl inG_X8 tyX8 tyX8_ok nmX8 (by decide) (gm_3 43 rfl rfl) rfl (by decide +kernel) rfl rfl (Nat.le_of_ble_eq_true rfl) rfl dX8_init_52 ?_
  refine k_aload hY dX8_init_55 0 rfl ?_
  refine k_iconst (x := 2) hY dX8_init_56 ?_
  refine k_putE (fs' := [.ref (b + 0), .ref (b + 1), .ref (b + 2), .ref (b + 3), .ref (b + 4), .ref (b + 5), vi 2, .int 0, .int 0, .int 0, .int 0, .null, .null, .null, .null, .null, .int 0, .null, .null, .null, .null, .int 0, .null, .null, .null, .null, .int 0, .null, .int 0, .int 0, .null, .null, .null, .null]) (C := RX8) (TT := TX8) (N := 34) (j := 6) (t0 := .int) hY hI rfl inG_X8 tyX8 tyX8_ok nmX8 (by decide) (gm_3 44 rfl rfl) rfl (by decide +kernel) rfl rfl (Nat.le_of_ble_eq_true rfl) rfl dX8_init_57 ?_
  refine k_aload hY dX8_init_60 0 rfl ?_
  refine k_bipush (x := 20) hY dX8_init_61 (by decide) ?_
  refine k_putE (fs' := [.ref (b + 0), .ref (b + 1), .ref (b + 2), .ref (b + 3), .ref (b + 4), .ref (b + 5), vi 2, vi 20, .int 0, .int 0, .int 0, .null, .null, .null, .null, .null, .int 0, .null, .null, .null, .null, .int 0, .null, .null, .null, .null, .int 0, .null, .int 0, .int 0, .null, .null, .null, .null]) (C := RX8) (TT := TX8) (N := 34) (j := 7) (t0 := .int) hY hI rfl inG_X8 tyX8 tyX8_ok nmX8 (by decide) (gm_3 45 rfl rfl) rfl (by decide +kernel) rfl rfl (Nat.le_of_ble_eq_true rfl) rfl dX8_init_63 ?_
  refine k_aload hY dX8_init_66 0 rfl ?_
  refine k_bipush (x := 30) hY dX8_init_67 (by decide) ?_
  refine k_putE (fs' := [.ref (b + 0), .ref (b + 1), .ref (b + 2), .ref (b + 3), .ref (b + 4), .ref (b + 5), vi 2, vi 20, vi 30, .int 0, .int 0, .null, .null, .null, .null, .null, .int 0, .null, .null, .null, .null, .int 0, .null, .null, .null, .null, .int 0, .null, .int 0, .int 0, .null, .null, .null, .null]) (C := RX8) (TT := TX8) (N := 34) (j := 8) (t0 := .int) hY hI rfl inG_X8 tyX8 tyX8_ok nmX8 (by decide) (gm_3 46 rfl rfl) rfl (by decide +kernel) rfl rfl (Nat.le_of_ble_eq_true rfl) rfl dX8_init_69 ?_
  refine k_aload hY dX8_init_72 0 rfl ?_
  refine k_sipush (x := 400) hY dX8_init_73 (by decide) ?_
  refine k_putE (fs' := [.ref (b + 0), .ref (b + 1), .ref (b + 2), .ref (b + 3), .ref (b + 4), .ref (b + 5), vi 2, vi 20, vi 30, vi 400, .int 0, .null, .null, .null, .null, .null, .int 0, .null, .null, .null, .null, .int 0, .null, .null, .null, .null, .int 0, .null, .int 0, .int 0, .null, .null, .null, .null]) (C := RX8) (TT := TX8) (N := 34) (j := 9) (t0 := .int) hY hI rfl inG_X8 tyX8 tyX8_ok nmX8 (by decide) (gm_3 47 rfl rfl) rfl (by decide +kernel) rfl rfl (Nat.le_of_ble_eq_true rfl) rfl dX8_init_76 ?_
  refine k_aload hY dX8_init_79 0 rfl ?_
  refine k_bipush (x := 40) hY dX8_init_80 (by decide) ?_
  refine k_putE (fs' := [.ref (b + 0), .ref (b + 1), .ref (b + 2), .ref (b + 3), .ref (b + 4), .ref (b + 5), vi 2, vi 20, vi 30, vi 400, vi 40, .null, .null, .null, .null, .null, .int 0, .null, .null, .null, .null, .int 0, .null, .null, .null, .null, .int 0, .null, .int 0, .int 0, .null, .null, .null, .null]) (C := RX8) (TT := TX8) (N := 34) (j := 10) (t0 := .int) hY hI rfl inG_X8 tyX8 tyX8_ok nmX8 (by decide) (gm_3 48 rfl rfl) rfl (by decide +kernel) rfl rfl (Nat.le_of_ble_eq_true rfl) rfl dX8_init_82 ?_
  refine k_aload hY dX8_init_85 0 rfl ?_
  refine k_sipush (x := 3025) hY dX8_init_86 (by decide) ?_
  refine k_newaE (N := 3025) (n' := 7) (sl' := 4539) hY (gm_1 41 rfl rfl) (by decide) (by decide) (by decide) rfl rfl (by decide) (by decide) rfl dX8_init_89 ?_
  refine k_putE (fs' := [.ref (b + 0), .ref (b + 1), .ref (b + 2), .ref (b + 3), .ref (b + 4), .ref (b + 5), vi 2, vi 20, vi 30, vi 400, vi 40, .ref (b + 6), .null, .null, .null, .null, .int 0, .null, .null, .null, .null, .int 0, .null, .null, .null, .null, .int 0, .null, .int 0, .int 0, .null, .null, .null, .null]) (C := RX8) (TT := TX8) (N := 34) (j := 11) (t0 := .array .int) hY hI rfl inG_X8 tyX8 tyX8_ok nmX8 (by decide) (gm_3 49 rfl rfl) rfl (by decide +kernel) rfl rfl (Nat.le_of_ble_eq_true rfl) rfl dX8_init_91 ?_
  refine k_aload hY dX8_init_94 0 rfl ?_
  refine k_bipush (x := 24) hY dX8_init_95 (by decide) ?_
  refine k_newaE (N := 24) (n' := 8) (sl' := 4563) hY (gm_1 41 rfl rfl) (by decide) (by decide) (by decide) rfl rfl (by decide) (by decide) rfl dX8_init_97 ?_
  refine k_putE (fs' := [.ref (b + 0), .ref (b + 1), .ref (b + 2), .ref (b + 3), .ref (b + 4), .ref (b + 5), vi 2, vi 20, vi 30, vi 400, vi 40, .ref (b + 6), .ref (b + 7), .null, .null, .null, .int 0, .null, .null, .null, .null, .int 0, .null, .null, .null, .null, .int 0, .null, .int 0, .int 0, .null, .null, .null, .null]) (C := RX8) (TT := TX8) (N := 34) (j := 12) (t0 := .array .int) hY hI rfl inG_X8 tyX8 tyX8_ok nmX8 (by decide) (gm_3 50 rfl rfl) rfl (by decide +kernel) rfl rfl (Nat.le_of_ble_eq_true rfl) rfl dX8_init_99 ?_
  refine k_aload hY dX8_init_102 0 rfl ?_
  refine k_bipush (x := 24) hY dX8_init_103 (by decide) ?_
  refine k_newaE (N := 24) (n' := 9) (sl' := 4587) hY (gm_1 41 rfl rfl) (by decide) (by decide) (by decide) rfl rfl (by decide) (by decide) rfl dX8_init_105 ?_
  refine k_putE (fs' := [.ref (b + 0), .ref (b + 1), .ref (b + 2), .ref (b + 3), .ref (b + 4), .ref (b + 5), vi 2, vi 20, vi 30, vi 400, vi 40, .ref (b + 6), .ref (b + 7), .ref (b + 8), .null, .null, .int 0, .null, .null, .null, .null, .int 0, .null, .null, .null, .null, .int 0, .null, .int 0, .int 0, .null, .null, .null, .null]) (C := RX8) (TT := TX8) (N := 34) (j := 13) (t0 := .array .int) hY hI rfl inG_X8 tyX8 tyX8_ok nmX8 (by decide) (gm_3 51 rfl rfl) rfl (by decide +kernel) rfl rfl (Nat.le_of_ble_eq_true rfl) rfl dX8_init_107 ?_
  refine k_aload hY dX8_init_110 0 rfl ?_
  refine k_bipush (x := 24) hY dX8_init_111 (by decide) ?_
  refine k_newaE (N := 24) (n' := 10) (sl' := 4611) hY (gm_1 41 rfl rfl) (by decide) (by decide) (by decide) rfl rfl (by decide) (by decide) rfl dX8_init_113 ?_
  refine k_putE (fs' := [.ref (b + 0), .ref (b + 1), .ref (b + 2), .ref (b + 3), .ref (b + 4), .ref (b + 5), vi 2, vi 20, vi 30, vi 400, vi 40, .ref (b + 6), .ref (b + 7), .ref (b + 8), .ref (b + 9), .null, .int 0, .null, .null, .null, .null, .int 0, .null, .null, .null, .null, .int 0, .null, .int 0, .int 0, .null, .null, .null, .null]) (C := RX8) (TT := TX8) (N := 34) (j := 14) (t0 := .array .int) hY hI rfl inG_X8 tyX8 tyX8_ok nmX8 (by decide) (gm_3 52 rfl rfl) rfl (by decide +kernel) rfl rfl (Nat.le_of_ble_eq_true rfl) rfl dX8_init_115 ?_
  refine k_aload hY dX8_init_118 0 rfl ?_
  refine k_bipush (x := 24) hY dX8_init_119 (by decide) ?_
  refine k_newzE (N := 24) (n' := 11) (sl' := 4635) hY (gm_3 141 rfl rfl) (by decide) (by decide) (by decide) rfl rfl (by decide) (by decide) rfl dX8_init_121 ?_
  refine k_putE (fs' := [.ref (b + 0), .ref (b + 1), .ref (b + 2), .ref (b + 3), .ref (b + 4), .ref (b + 5), vi 2, vi 20, vi 30, vi 400, vi 40, .ref (b + 6), .ref (b + 7), .ref (b + 8), .ref (b + 9), .ref (b + 10), .int 0, .null, .null, .null, .null, .int 0, .null, .null, .null, .null, .int 0, .null, .int 0, .int 0, .null, .null, .null, .null]) (C := RX8) (TT := TX8) (N := 34) (j := 15) (t0 := .array .boolean) hY hI rfl inG_X8 tyX8 tyX8_ok nmX8 (by decide) (gm_3 53 rfl rfl) rfl (by decide +kernel) rfl rfl (Nat.le_of_ble_eq_true rfl) rfl dX8_init_123 ?_
  refine k_aload hY dX8_init_126 0 rfl ?_
  refine k_bipush (x := 9) hY dX8_init_127 (by decide) ?_
  refine k_newaE (N := 9) (n' := 12) (sl' := 4644) hY (gm_1 41 rfl rfl) (by decide) (by decide) (by decide) rfl rfl (by decide) (by decide) rfl dX8_init_129 ?_
  refine k_putE (fs' := [.ref (b + 0), .ref (b + 1), .ref (b + 2), .ref (b + 3), .ref (b + 4), .ref (b + 5), vi 2, vi 20, vi 30, vi 400, vi 40, .ref (b + 6), .ref (b + 7), .ref (b + 8), .ref (b + 9), .ref (b + 10), .int 0, .ref (b + 11), .null, .null, .null, .int 0, .null, .null, .null, .null, .int 0, .null, .int 0, .int 0, .null, .null, .null, .null]) (C := RX8) (TT := TX8) (N := 34) (j := 17) (t0 := .array .int) hY hI rfl inG_X8 tyX8 tyX8_ok nmX8 (by decide) (gm_3 55 rfl rfl) rfl (by decide +kernel) rfl rfl (Nat.le_of_ble_eq_true rfl) rfl dX8_init_131 ?_
  refine k_aload hY dX8_init_134 0 rfl ?_
  refine k_bipush (x := 9) hY dX8_init_135 (by decide) ?_
  refine k_newaE (N := 9) (n' := 13) (sl' := 4653) hY (gm_1 41 rfl rfl) (by decide) (by decide) (by decide) rfl rfl (by decide) (by decide) rfl dX8_init_137 ?_
  refine k_putE (fs' := [.ref (b + 0), .ref (b + 1), .ref (b + 2), .ref (b + 3), .ref (b + 4), .ref (b + 5), vi 2, vi 20, vi 30, vi 400, vi 40, .ref (b + 6), .ref (b + 7), .ref (b + 8), .ref (b + 9), .ref (b + 10), .int 0, .ref (b + 11), .ref (b + 12), .null, .null, .int 0, .null, .null, .null, .null, .int 0, .null, .int 0, .int 0, .null, .null, .null, .null]) (C := RX8) (TT := TX8) (N := 34) (j := 18) (t0 := .array .int) hY hI rfl inG_X8 tyX8 tyX8_ok nmX8 (by decide) (gm_3 56 rfl rfl) rfl (by decide +kernel) rfl rfl (Nat.le_of_ble_eq_true rfl) rfl dX8_init_139 ?_
  refine k_aload hY dX8_init_142 0 rfl ?_
  refine k_bipush (x := 90) hY dX8_init_143 (by decide) ?_
  refine k_newaE (N := 90) (n' := 14) (sl' := 4743) hY (gm_1 41 rfl rfl) (by decide) (by decide) (by decide) rfl rfl (by decide) (by decide) rfl dX8_init_145 ?_
  refine k_putE (fs' := [.ref (b + 0), .ref (b + 1), .ref (b + 2), .ref (b + 3), .ref (b + 4), .ref (b + 5), vi 2, vi 20, vi 30, vi 400, vi 40, .ref (b + 6), .ref (b + 7), .ref (b + 8), .ref (b + 9), .ref (b + 10), .int 0, .ref (b + 11), .ref (b + 12), .ref (b + 13), .null, .int 0, .null, .null, .null, .null, .int 0, .null, .int 0, .int 0, .null, .null, .null, .null]) (C := RX8) (TT := TX8) (N := 34) (j := 19) (t0 := .array .int) hY hI rfl inG_X8 tyX8 tyX8_ok nmX8 (by decide) (gm_3 57 rfl rfl) rfl (by decide +kernel) rfl rfl (Nat.le_of_ble_eq_true rfl) rfl dX8_init_147 ?_
  refine k_aload hY dX8_init_150 0 rfl ?_
  refine k_bipush (x := 10) hY dX8_init_151 (by decide) ?_
  refine k_newaE (N := 10) (n' := 15) (sl' := 4753) hY (gm_1 41 rfl rfl) (by decide) (by decide) (by decide) rfl rfl (by decide) (by decide) rfl dX8_init_153 ?_
  refine k_putE (fs' := [.ref (b + 0), .ref (b + 1), .ref (b + 2), .ref (b + 3), .ref (b + 4), .ref (b + 5), vi 2, vi 20, vi 30, vi 400, vi 40, .ref (b + 6), .ref (b + 7), .ref (b + 8), .ref (b + 9), .ref (b + 10), .int 0, .ref (b + 11), .ref (b + 12), .ref (b + 13), .ref (b + 14), .int 0, .null, .null, .null, .null, .int 0, .null, .int 0, .int 0, .null, .null, .null, .null]) (C := RX8) (TT := TX8) (N := 34) (j := 20) (t0 := .array .int) hY hI rfl inG_X8 tyX8 tyX8_ok nmX8 (by decide) (gm_3 58 rfl rfl) rfl (by decide +kernel) rfl rfl (Nat.le_of_ble_eq_true rfl) rfl dX8_init_155 ?_
  refine k_aload hY dX8_init_158 0 rfl ?_
  refine k_bipush (x := 60) hY dX8_init_159 (by decide) ?_
  refine k_newaE (N := 60) (n' := 16) (sl' := 4813) hY (gm_1 41 rfl rfl) (by decide) (by decide) (by decide) rfl rfl (by decide) (by decide) rfl dX8_init_161 ?_
  refine k_putE (fs' := [.ref (b + 0), .ref (b + 1), .ref (b + 2), .ref (b + 3), .ref (b + 4), .ref (b + 5), vi 2, vi 20, vi 30, vi 400, vi 40, .ref (b + 6), .ref (b + 7), .ref (b + 8), .ref (b + 9), .ref (b + 10), .int 0, .ref (b + 11), .ref (b + 12), .ref (b + 13), .ref (b + 14), .int 0, .ref (b + 15), .null, .null, .null, .int 0, .null, .int 0, .int 0, .null, .null, .null, .null]) (C := RX8) (TT := TX8) (N := 34) (j := 22) (t0 := .array .int) hY hI rfl inG_X8 tyX8 tyX8_ok nmX8 (by decide) (gm_3 60 rfl rfl) rfl (by decide +kernel) rfl rfl (Nat.le_of_ble_eq_true rfl) rfl dX8_init_163 ?_
  refine k_aload hY dX8_init_166 0 rfl ?_
  refine k_bipush (x := 60) hY dX8_init_167 (by decide) ?_
  refine k_newaE (N := 60) (n' := 17) (sl' := 4873) hY (gm_1 41 rfl rfl) (by decide) (by decide) (by decide) rfl rfl (by decide) (by decide) rfl dX8_init_169 ?_
  refine k_putE (fs' := [.ref (b + 0), .ref (b + 1), .ref (b + 2), .ref (b + 3), .ref (b + 4), .ref (b + 5), vi 2, vi 20, vi 30, vi 400, vi 40, .ref (b + 6), .ref (b + 7), .ref (b + 8), .ref (b + 9), .ref (b + 10), .int 0, .ref (b + 11), .ref (b + 12), .ref (b + 13), .ref (b + 14), .int 0, .ref (b + 15), .ref (b + 16), .null, .null, .int 0, .null, .int 0, .int 0, .null, .null, .null, .null]) (C := RX8) (TT := TX8) (N := 34) (j := 23) (t0 := .array .int) hY hI rfl inG_X8 tyX8 tyX8_ok nmX8 (by decide) (gm_3 61 rfl rfl) rfl (by decide +kernel) rfl rfl (Nat.le_of_ble_eq_true rfl) rfl dX8_init_171 ?_
  refine k_aload hY dX8_init_174 0 rfl ?_
  refine k_bipush (x := 60) hY dX8_init_175 (by decide) ?_
  refine k_newaE (N := 60) (n' := 18) (sl' := 4933) hY (gm_1 41 rfl rfl) (by decide) (by decide) (by decide) rfl rfl (by decide) (by decide) rfl dX8_init_177 ?_
  refine k_putE (fs' := [.ref (b + 0), .ref (b + 1), .ref (b + 2), .ref (b + 3), .ref (b + 4), .ref (b + 5), vi 2, vi 20, vi 30, vi 400, vi 40, .ref (b + 6), .ref (b + 7), .ref (b + 8), .ref (b + 9), .ref (b + 10), .int 0, .ref (b + 11), .ref (b + 12), .ref (b + 13), .ref (b + 14), .int 0, .ref (b + 15), .ref (b + 16), .ref (b + 17), .null, .int 0, .null, .int 0, .int 0, .null, .null, .null, .null]) (C := RX8) (TT := TX8) (N := 34) (j := 24) (t0 := .array .int) hY hI rfl inG_X8 tyX8 tyX8_ok nmX8 (by decide) (gm_3 62 rfl rfl) rfl (by decide +kernel) rfl rfl (Nat.le_of_ble_eq_true rfl) rfl dX8_init_179 ?_
  refine k_aload hY dX8_init_182 0 rfl ?_
  refine k_bipush (x := 60) hY dX8_init_183 (by decide) ?_
  refine k_newaE (N := 60) (n' := 19) (sl' := 4993) hY (gm_1 41 rfl rfl) (by decide) (by decide) (by decide) rfl rfl (by decide) (by decide) rfl dX8_init_185 ?_
  refine k_putE (fs' := [.ref (b + 0), .ref (b + 1), .ref (b + 2), .ref (b + 3), .ref (b + 4), .ref (b + 5), vi 2, vi 20, vi 30, vi 400, vi 40, .ref (b + 6), .ref (b + 7), .ref (b + 8), .ref (b + 9), .ref (b + 10), .int 0, .ref (b + 11), .ref (b + 12), .ref (b + 13), .ref (b + 14), .int 0, .ref (b + 15), .ref (b + 16), .ref (b + 17), .ref (b + 18), .int 0, .null, .int 0, .int 0, .null, .null, .null, .null]) (C := RX8) (TT := TX8) (N := 34) (j := 25) (t0 := .array .int) hY hI rfl inG_X8 tyX8 tyX8_ok nmX8 (by decide) (gm_3 63 rfl rfl) rfl (by decide +kernel) rfl rfl (Nat.le_of_ble_eq_true rfl) rfl dX8_init_187 ?_
  refine k_aload hY dX8_init_190 0 rfl ?_
  refine k_bipush (x := 12) hY dX8_init_191 (by decide) ?_
  refine k_newaE (N := 12) (n' := 20) (sl' := 5005) hY (gm_1 41 rfl rfl) (by decide) (by decide) (by decide) rfl rfl (by decide) (by decide) rfl dX8_init_193 ?_
  refine k_putE (fs' := [.ref (b + 0), .ref (b + 1), .ref (b + 2), .ref (b + 3), .ref (b + 4), .ref (b + 5), vi 2, vi 20, vi 30, vi 400, vi 40, .ref (b + 6), .ref (b + 7), .ref (b + 8), .ref (b + 9), .ref (b + 10), .int 0, .ref (b + 11), .ref (b + 12), .ref (b + 13), .ref (b + 14), .int 0, .ref (b + 15), .ref (b + 16), .ref (b + 17), .ref (b + 18), .int 0, .ref (b + 19), .int 0, .int 0, .null, .null, .null, .null]) (C := RX8) (TT := TX8) (N := 34) (j := 27) (t0 := .array .int) hY hI rfl inG_X8 tyX8 tyX8_ok nmX8 (by decide) (gm_3 65 rfl rfl) rfl (by decide +kernel) rfl rfl (Nat.le_of_ble_eq_true rfl) rfl dX8_init_195 ?_
  refine k_aload hY dX8_init_198 0 rfl ?_
  refine k_iconst (x := 2) hY dX8_init_199 ?_
  refine k_putE (fs' := [.ref (b + 0), .ref (b + 1), .ref (b + 2), .ref (b + 3), .ref (b + 4), .ref (b + 5), vi 2, vi 20, vi 30, vi 400, vi 40, .ref (b + 6), .ref (b + 7), .ref (b + 8), .ref (b + 9), .ref (b + 10), .int 0, .ref (b + 11), .ref (b + 12), .ref (b + 13), .ref (b + 14), .int 0, .ref (b + 15), .ref (b + 16), .ref (b + 17), .ref (b + 18), .int 0, .ref (b + 19), vi 2, .int 0, .null, .null, .null, .null]) (C := RX8) (TT := TX8) (N := 34) (j := 28) (t0 := .int) hY hI rfl inG_X8 tyX8 tyX8_ok nmX8 (by decide) (gm_3 66 rfl rfl) rfl (by decide +kernel) rfl rfl (Nat.le_of_ble_eq_true rfl) rfl dX8_init_200 ?_
  refine k_aload hY dX8_init_203 0 rfl ?_
  refine k_bipush (x := 12) hY dX8_init_204 (by decide) ?_
  refine k_newaE (N := 12) (n' := 21) (sl' := 5017) hY (gm_1 41 rfl rfl) (by decide) (by decide) (by decide) rfl rfl (by decide) (by decide) rfl dX8_init_206 ?_
  refine k_putE (fs' := [.ref (b + 0), .ref (b + 1), .ref (b + 2), .ref (b + 3), .ref (b + 4), .ref (b + 5), vi 2, vi 20, vi 30, vi 400, vi 40, .ref (b + 6), .ref (b + 7), .ref (b + 8), .ref (b + 9), .ref (b + 10), .int 0, .ref (b + 11), .ref (b + 12), .ref (b + 13), .ref (b + 14), .int 0, .ref (b + 15), .ref (b + 16), .ref (b + 17), .ref (b + 18), .int 0, .ref (b + 19), vi 2, .int 0, .ref (b + 20), .null, .null, .null]) (C := RX8) (TT := TX8) (N := 34) (j := 30) (t0 := .array .int) hY hI rfl inG_X8 tyX8 tyX8_ok nmX8 (by decide) (gm_3 68 rfl rfl) rfl (by decide +kernel) rfl rfl (Nat.le_of_ble_eq_true rfl) rfl dX8_init_208 ?_
  refine k_aload hY dX8_init_211 0 rfl ?_
  refine k_bipush (x := 12) hY dX8_init_212 (by decide) ?_
  refine k_newaE (N := 12) (n' := 22) (sl' := 5029) hY (gm_1 41 rfl rfl) (by decide) (by decide) (by decide) rfl rfl (by decide) (by decide) rfl dX8_init_214 ?_
  refine k_putE (fs' := [.ref (b + 0), .ref (b + 1), .ref (b + 2), .ref (b + 3), .ref (b + 4), .ref (b + 5), vi 2, vi 20, vi 30, vi 400, vi 40, .ref (b + 6), .ref (b + 7), .ref (b + 8), .ref (b + 9), .ref (b + 10), .int 0, .ref (b + 11), .ref (b + 12), .ref (b + 13), .ref (b + 14), .int 0, .ref (b + 15), .ref (b + 16), .ref (b + 17), .ref (b + 18), .int 0, .ref (b + 19), vi 2, .int 0, .ref (b + 20), .ref (b + 21), .null, .null]) (C := RX8) (TT := TX8) (N := 34) (j := 31) (t0 := .array .int) hY hI rfl inG_X8 tyX8 tyX8_ok nmX8 (by decide) (gm_3 69 rfl rfl) rfl (by decide +kernel) rfl rfl (Nat.le_of_ble_eq_true rfl) rfl dX8_init_216 ?_
  refine k_aload hY dX8_init_219 0 rfl ?_
  refine k_sipush (x := 144) hY dX8_init_220 (by decide) ?_
  refine k_newzE (N := 144) (n' := 23) (sl' := 5173) hY (gm_3 141 rfl rfl) (by decide) (by decide) (by decide) rfl rfl (by decide) (by decide) rfl dX8_init_223 ?_
  refine k_putE (fs' := [.ref (b + 0), .ref (b + 1), .ref (b + 2), .ref (b + 3), .ref (b + 4), .ref (b + 5), vi 2, vi 20, vi 30, vi 400, vi 40, .ref (b + 6), .ref (b + 7), .ref (b + 8), .ref (b + 9), .ref (b + 10), .int 0, .ref (b + 11), .ref (b + 12), .ref (b + 13), .ref (b + 14), .int 0, .ref (b + 15), .ref (b + 16), .ref (b + 17), .ref (b + 18), .int 0, .ref (b + 19), vi 2, .int 0, .ref (b + 20), .ref (b + 21), .ref (b + 22), .null]) (C := RX8) (TT := TX8) (N := 34) (j := 32) (t0 := .array .boolean) hY hI rfl inG_X8 tyX8 tyX8_ok nmX8 (by decide) (gm_3 70 rfl rfl) rfl (by decide +kernel) rfl rfl (Nat.le_of_ble_eq_true rfl) rfl dX8_init_225 ?_
  refine k_aload hY dX8_init_228 0 rfl ?_
  refine k_bipush (x := 12) hY dX8_init_229 (by decide) ?_
  refine k_newaE (N := 12) (n' := 24) (sl' := 5185) hY (gm_1 41 rfl rfl) (by decide) (by decide) (by decide) rfl rfl (by decide) (by decide) rfl dX8_init_231 ?_
  refine k_putE (fs' := [.ref (b + 0), .ref (b + 1), .ref (b + 2), .ref (b + 3), .ref (b + 4), .ref (b + 5), vi 2, vi 20, vi 30, vi 400, vi 40, .ref (b + 6), .ref (b + 7), .ref (b + 8), .ref (b + 9), .ref (b + 10), .int 0, .ref (b + 11), .ref (b + 12), .ref (b + 13), .ref (b + 14), .int 0, .ref (b + 15), .ref (b + 16), .ref (b + 17), .ref (b + 18), .int 0, .ref (b + 19), vi 2, .int 0, .ref (b + 20), .ref (b + 21), .ref (b + 22), .ref (b + 23)]) (C := RX8) (TT := TX8) (N := 34) (j := 33) (t0 := .array .int) hY hI rfl inG_X8 tyX8 tyX8_ok nmX8 (by decide) (gm_3 71 rfl rfl) rfl (by decide +kernel) rfl rfl (Nat.le_of_ble_eq_true rfl) rfl dX8_init_233 ?_
  exact k_ret hY hI hQ (fun _ _ => rfl) dX8_init_236

