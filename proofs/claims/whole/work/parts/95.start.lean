/-! THE CLAIM OUT OF ONE WALK OF THE LAW'S BODY. Your part is whole_start (and what it stands on); all else here is the same for every law, but numbers. -/
def R_law : String := "GleePrizeLaw"
def lw_P (b : Addr) (xs : List Int32) (args : Array Value) (s : State) : Prop := args = #[.ref b] ∧ s.IntsAt b xs ∧ xs.length ≤ 3072 ∧ (Jvm.Cond.and given_1 narrow_1).before args s = true
def lw_Q (_ : Array Value) (s : State) (o : Outcome) (t : State) : Prop := o = .returned (some (.int 1)) ∧ Framed s o t [] 600000 7302250
def lw_Z (below : List Frame) (a : Array Value) (s : State) : State → Prop := fun t => ∃ o, t.status = .running ∧ Ended t below o ∧ lw_Q a s o t
/-- the law's own end, with 1 on the stack, nothing written that was there before, its room as the claim has it -/
theorem lw_ret {p : Program} {l : Launch} {e : Env} {s : State} {m : MethodId} {below : List Frame} {meth : Method} {c : Code} {b : Nat} (hx : p.tables.exec = Jvm.exec) (hb : c.code = code) (hr : meth.sig.returnType = ret) (hlocks : meth.locks = false) {pc : Nat} {H : Heap} {ls : Array Slot} (hdg : decode code pc = .ok (.ireturn, 1)) : W p l e room_1 s m #[Value.ref b] below meth c H [] 600000 7302250 (lw_Z below #[Value.ref b] s) (F0 m pc ls [.int 1]) := by
  intro T hT X
  obtain ⟨fs, hret, hrun, hended, hW, hframe⟩ := X.leave (v := some (.int 1)) (hlocks := hlocks) (fun h => by rw [hr] at h; cases h)
  have hmeth' : T.vm.method? m = some meth := X.method'
  refine ⟨T.setFrames fs, ?_, .returned (some (.int 1)), hrun, hended, rfl, ⟨_, rfl⟩, hW, hframe⟩
  jvm_step X.here [X.here.top, hx, hb, hdg, hmeth', hr, ret, narrow_b1]
  (try refine ⟨rfl, ?_⟩); (try refine ⟨rfl, ?_⟩)
  first | (intro acts; rw [hret _ acts rfl rfl rfl]) | rw [hret _ _ rfl rfl rfl]
  exact Steps.refl _
/-- what holds at the law's entry: the machine, the code, the tables' words (any of lw_tbl by 'hts w (by decide +kernel)'), the script of L ints xs at the cell b, what the Statement gives of the start (any of its parts by flat_of_before) -/
def lw_At (p : Program) (s : State) (m : MethodId) (meth : Method) (c : Code) (b L : Nat) (xs : Nat → Int32) : Prop :=
  p.tables.exec = Jvm.exec ∧ c.code = code ∧ meth.sig.returnType = ret ∧ c.maxLocals = 4 ∧ s.vm.findClass R_law = some m.cls ∧ (∀ w ∈ lw_tbl, w.before #[Value.ref b] s = true) ∧ va_X b L xs s s.heap ∧ b < s.heap.size ∧ meth.locks = false ∧ (Jvm.Cond.and given_1 narrow_1).before #[Value.ref b] s = true
theorem gand31 (a : Int) : 0 ≤ gand a 31 ∧ gand a 31 ≤ 31 := by
  have e : gand a 31 = (gv a &&& 31#32).toInt := rfl
  have h : (gv a &&& 31#32).toNat ≤ 31 := by
    rw [BitVec.toNat_and]
    exact Nat.and_le_right
  rw [e, BitVec.toInt_eq_toNat_of_lt (by omega)]
  omega
set_option maxRecDepth 100000 in
set_option maxHeartbeats 4000000 in
theorem l_loop {X : gX} {G : gG} (hX : gOk X G code 4 RL ret 18) {b L : Nat} {xs : Nat → Int32} (hS : gSc X b L xs) (hL : L ≤ 3072) (done : ∀ (s : gS) (loc : List (Nat × Value)), gWL X G s 898 loc []) : ∀ (n : Nat) (i : Int) (s : gS), 0 ≤ i → i ≤ 4000 → (L : Int) + 6 - i ≤ n → iv s → gWL X G s 18 [(3, vi i), (2, gR G 400), (1, gR G 0), (0, .ref b)] [] := by
  intro n
  induction n with
  | zero =>
    intro i s i0 i2 hn hi
    refine g_iload_n hX dL_law_18 0 rfl ?_
    refine l_aload hX dL_law_19 3 rfl ?_
    refine l_len hX hS dL_law_20 ?_
    refine g_bipush (n := 6) hX dL_law_21 (by decide) ?_
    refine g_isub hX dL_law_23 ?_
    exact g_icgt (tgt := 898) hX (rng_of (by omega) (by omega)) (rng_of (by omega) (by omega)) dL_law_24 rfl (fun _ => done _ _) (fun h => by omega)
  | succ n ih =>
    intro i s i0 i2 hn hi
    refine g_iload_n hX dL_law_18 0 rfl ?_
    refine l_aload hX dL_law_19 3 rfl ?_
    refine l_len hX hS dL_law_20 ?_
    refine g_bipush (n := 6) hX dL_law_21 (by decide) ?_
    refine g_isub hX dL_law_23 ?_
    refine g_icgt (tgt := 898) hX (rng_of (by omega) (by omega)) (rng_of (by omega) (by omega)) dL_law_24 rfl (fun _ => done _ _) (fun h => ?_)
    have next : ∀ s1 : gS, iv s1 → gWL X G s1 892 [(3, vi i), (2, gR G 400), (1, gR G 0), (0, .ref b)] [] := fun s1 h1 => by
      refine g_iinc (f := 3) (n := 6) (loc' := [(3, vi (i + 6)), (2, gR G 400), (1, gR G 0), (0, .ref b)]) hX dL_law_892 0 rfl (by decide) rfl ?_
      exact g_goto (tgt := 18) hX dL_law_895 rfl (ih (i + 6) s1 (by omega) (by omega) (by omega) h1)
    refine l_aload hX dL_law_27 3 rfl ?_
    refine g_iload_n hX dL_law_28 0 rfl ?_
    refine l_iald hX hS (by omega) (by omega) dL_law_29 ?_
    refine g_bipush (n := 31) hX dL_law_30 (by decide) ?_
    refine g_iand hX dL_law_32 ?_
    have hb := gand31 (gx xs i)
    generalize gand (gx xs i) 31 = a at hb ⊢
    by_cases ha : a ≤ 21
    · rcases (show a = 0 ∨ a = 1 ∨ a = 2 ∨ a = 3 ∨ a = 4 ∨ a = 5 ∨ a = 6 ∨ a = 7 ∨ a = 8 ∨ a = 9 ∨ a = 10 ∨ a = 11 ∨ a = 12 ∨ a = 13 ∨ a = 14 ∨ a = 15 ∨ a = 16 ∨ a = 17 ∨ a = 18 ∨ a = 19 ∨ a = 20 ∨ a = 21 by omega) with e | e | e | e | e | e | e | e | e | e | e | e | e | e | e | e | e | e | e | e | e | e
      · subst e
        exact g_tabIn (tgt := 136) hX (rng_of (by omega) (by omega)) dL_law_33 (by decide) (by decide) rfl rfl (lc_0 hX hS hL i i0 (by omega) s hi next)
      · subst e
        exact g_tabIn (tgt := 179) hX (rng_of (by omega) (by omega)) dL_law_33 (by decide) (by decide) rfl rfl (lc_1 hX hS hL i i0 (by omega) s hi next)
      · subst e
        exact g_tabIn (tgt := 212) hX (rng_of (by omega) (by omega)) dL_law_33 (by decide) (by decide) rfl rfl (lc_2 hX hS hL i i0 (by omega) s hi next)
      · subst e
        exact g_tabIn (tgt := 255) hX (rng_of (by omega) (by omega)) dL_law_33 (by decide) (by decide) rfl rfl (lc_3 hX hS hL i i0 (by omega) s hi next)
      · subst e
        exact g_tabIn (tgt := 318) hX (rng_of (by omega) (by omega)) dL_law_33 (by decide) (by decide) rfl rfl (lc_4 hX hS hL i i0 (by omega) s hi next)
      · subst e
        exact g_tabIn (tgt := 341) hX (rng_of (by omega) (by omega)) dL_law_33 (by decide) (by decide) rfl rfl (lc_5 hX hS hL i i0 (by omega) s hi next)
      · subst e
        exact g_tabIn (tgt := 384) hX (rng_of (by omega) (by omega)) dL_law_33 (by decide) (by decide) rfl rfl (lc_6 hX hS hL i i0 (by omega) s hi next)
      · subst e
        exact g_tabIn (tgt := 417) hX (rng_of (by omega) (by omega)) dL_law_33 (by decide) (by decide) rfl rfl (lc_7 hX hS hL i i0 (by omega) s hi next)
      · subst e
        exact g_tabIn (tgt := 450) hX (rng_of (by omega) (by omega)) dL_law_33 (by decide) (by decide) rfl rfl (lc_8 hX hS hL i i0 (by omega) s hi next)
      · subst e
        exact g_tabIn (tgt := 473) hX (rng_of (by omega) (by omega)) dL_law_33 (by decide) (by decide) rfl rfl (lc_9 hX hS hL i i0 (by omega) s hi next)
      · subst e
        exact g_tabIn (tgt := 546) hX (rng_of (by omega) (by omega)) dL_law_33 (by decide) (by decide) rfl rfl (lc_10 hX hS hL i i0 (by omega) s hi next)
      · subst e
        exact g_tabIn (tgt := 559) hX (rng_of (by omega) (by omega)) dL_law_33 (by decide) (by decide) rfl rfl (lc_11 hX hS hL i i0 (by omega) s hi next)
      · subst e
        exact g_tabIn (tgt := 582) hX (rng_of (by omega) (by omega)) dL_law_33 (by decide) (by decide) rfl rfl (lc_12 hX hS hL i i0 (by omega) s hi next)
      · subst e
        exact g_tabIn (tgt := 615) hX (rng_of (by omega) (by omega)) dL_law_33 (by decide) (by decide) rfl rfl (lc_13 hX hS hL i i0 (by omega) s hi next)
      · subst e
        exact g_tabIn (tgt := 668) hX (rng_of (by omega) (by omega)) dL_law_33 (by decide) (by decide) rfl rfl (lc_14 hX hS hL i i0 (by omega) s hi next)
      · subst e
        exact g_tabIn (tgt := 711) hX (rng_of (by omega) (by omega)) dL_law_33 (by decide) (by decide) rfl rfl (lc_15 hX hS hL i i0 (by omega) s hi next)
      · subst e
        exact g_tabIn (tgt := 744) hX (rng_of (by omega) (by omega)) dL_law_33 (by decide) (by decide) rfl rfl (lc_16 hX hS hL i i0 (by omega) s hi next)
      · subst e
        exact g_tabIn (tgt := 767) hX (rng_of (by omega) (by omega)) dL_law_33 (by decide) (by decide) rfl rfl (lc_17 hX hS hL i i0 (by omega) s hi next)
      · subst e
        exact g_tabIn (tgt := 780) hX (rng_of (by omega) (by omega)) dL_law_33 (by decide) (by decide) rfl rfl (lc_18 hX hS hL i i0 (by omega) s hi next)
      · subst e
        exact g_tabIn (tgt := 803) hX (rng_of (by omega) (by omega)) dL_law_33 (by decide) (by decide) rfl rfl (lc_19 hX hS hL i i0 (by omega) s hi next)
      · subst e
        exact g_tabIn (tgt := 826) hX (rng_of (by omega) (by omega)) dL_law_33 (by decide) (by decide) rfl rfl (lc_20 hX hS hL i i0 (by omega) s hi next)
      · subst e
        exact g_tabIn (tgt := 849) hX (rng_of (by omega) (by omega)) dL_law_33 (by decide) (by decide) rfl rfl (lc_21 hX hS hL i i0 (by omega) s hi next)
    · exact g_tabOut (tgt := 892) hX (rng_of (by omega) (by omega)) dL_law_33 (by omega) rfl (next s hi)
theorem lw_all {s : State} {A : Array Value} (h : ∀ w ∈ lw_tbl, w.before A s = true) : ∀ w ∈ gAll, w.before A s = true := fun w hw => h w (List.mem_filter.mp hw).1
theorem lw_N {s : State} {A : Array Value} (h : ∀ w ∈ lw_tbl, w.before A s = true) : gN s := fun w hw => by
  obtain ⟨h1, h2⟩ := List.mem_filter.mp hw
  cases w with
  | methodLinkNest a b c d => exact va_Nw.of rfl (h _ h1)
  | _ => cases h2
theorem lw_AO {s : State} {A : Array Value} (h : ∀ w ∈ lw_tbl, w.before A s = true) : gAO s := ⟨va_AO.of (h _ (List.mem_append_right _ (List.mem_append_left _ (List.mem_of_getElem? (i := 21) rfl)))), va_AO.of (h _ (List.mem_append_right _ (List.mem_append_left _ (List.mem_of_getElem? (i := 43) rfl)))), h (Cond.arrayOver (.array .int)) (List.mem_append_right _ (List.mem_append_left _ (List.mem_of_getElem? (i := 96) rfl)))⟩
theorem lw_cl {s : State} {A : Array Value} (h : ∀ w ∈ gAll, w.before A s = true) (ci : Nat) : ∃ (cC : ClassId) (iS : Nat → Nat), ∀ q : vw_C, vwCl[ci]? = some q → u_Kn s q.1 q.2.1 q.2.2 cC iS := by
  have none' : ¬ ci < 9 → ∃ (cC : ClassId) (iS : Nat → Nat), ∀ q : vw_C, vwCl[ci]? = some q → u_Kn s q.1 q.2.1 q.2.2 cC iS := fun hn => ⟨0, fun _ => 0, fun q hq => absurd (List.getElem?_eq_some_iff.mp hq).1 (by show ¬ ci < 9; exact hn)⟩
  by_cases hc : ci < 9
  · rcases (show ci = 0 ∨ ci = 1 ∨ ci = 2 ∨ ci = 3 ∨ ci = 4 ∨ ci = 5 ∨ ci = 6 ∨ ci = 7 ∨ ci = 8 by omega) with e | e | e | e | e | e | e | e | e <;> subst e
    · obtain ⟨cC, iS, hk⟩ := u_known h inG_X0 (h _ (gm_1 90 rfl rfl))
      exact ⟨cC, iS, fun q hq => by cases hq; exact hk⟩
    · obtain ⟨cC, iS, hk⟩ := u_known h inG_X1 (h _ (gm_1 64 rfl rfl))
      exact ⟨cC, iS, fun q hq => by cases hq; exact hk⟩
    · obtain ⟨cC, iS, hk⟩ := u_known h inG_X2 (h _ (gm_1 147 rfl rfl))
      exact ⟨cC, iS, fun q hq => by cases hq; exact hk⟩
    · obtain ⟨cC, iS, hk⟩ := u_known h inG_X3 (h _ (gm_1 22 rfl rfl))
      exact ⟨cC, iS, fun q hq => by cases hq; exact hk⟩
    · obtain ⟨cC, iS, hk⟩ := u_known h inG_X4 (h _ (gm_1 44 rfl rfl))
      exact ⟨cC, iS, fun q hq => by cases hq; exact hk⟩
    · obtain ⟨cC, iS, hk⟩ := u_known h inG_X5 (h _ (gm_1 165 rfl rfl))
      exact ⟨cC, iS, fun q hq => by cases hq; exact hk⟩
    · obtain ⟨cC, iS, hk⟩ := u_known h inG_X6 (h _ (gm_1 188 rfl rfl))
      exact ⟨cC, iS, fun q hq => by cases hq; exact hk⟩
    · obtain ⟨cC, iS, hk⟩ := u_known h inG_X7 (h _ (gm_1 13 rfl rfl))
      exact ⟨cC, iS, fun q hq => by cases hq; exact hk⟩
    · obtain ⟨cC, iS, hk⟩ := u_known h inG_X8 (h _ (gm_3 33 rfl rfl))
      exact ⟨cC, iS, fun q hq => by cases hq; exact hk⟩
  · exact none' hc
def gty5 : List FieldType := [.int, .boolean, .object "GleePrize$Piece", .object "GleePrize$Recording", .array .int]
theorem lw_ty {s : State} {A : Array Value} (h : ∀ w ∈ gAll, w.before A s = true) (hO : gAO s) (k : Nat) : ∃ c : ClassId, ∀ ty : FieldType, gty5[k]? = some ty → ArrOfT s c ty ∧ va_RA s c ty := by
  by_cases hk : k < 5
  · rcases (show k = 0 ∨ k = 1 ∨ k = 2 ∨ k = 3 ∨ k = 4 by omega) with e | e | e | e | e <;> subst e
    · obtain ⟨c, kA, comp, h1, h2, h3⟩ := Cond.arrayClass_spec (h _ (gm_1 41 rfl rfl))
      exact ⟨c, fun ty ht => by cases ht; exact ⟨fun n z => ⟨fun k h => (by cases h), kA, h2, comp, h3⟩, h1⟩⟩
    · obtain ⟨c, kA, comp, h1, h2, h3⟩ := Cond.arrayClass_spec (h _ (gm_3 141 rfl rfl))
      exact ⟨c, fun ty ht => by cases ht; exact ⟨fun n z => ⟨fun k h => (by cases h), kA, h2, comp, h3⟩, h1⟩⟩
    · obtain ⟨comp, c, kA, h1, -, h3, h4, h5⟩ := Cond.arrayOver_spec hO.1
      exact ⟨c, fun ty ht => by cases ht; exact ⟨fun n z => ⟨fun k h => (by cases h), kA, h3, comp, h4⟩, kA, comp, h3, h4, h1, h5⟩⟩
    · obtain ⟨comp, c, kA, h1, -, h3, h4, h5⟩ := Cond.arrayOver_spec hO.2.1
      exact ⟨c, fun ty ht => by cases ht; exact ⟨fun n z => ⟨fun k h => (by cases h), kA, h3, comp, h4⟩, kA, comp, h3, h4, h1, h5⟩⟩
    · obtain ⟨comp, c, kA, h1, h3, h4, h5⟩ := Cond.arrayOver_specA hO.2.2
      exact ⟨c, fun ty ht => by cases ht; exact ⟨fun n z => ⟨fun k h => (by cases h), kA, h3, comp, h4⟩, h5⟩⟩
  · exact ⟨0, fun ty ht => absurd (List.getElem?_eq_some_iff.mp ht).1 (by show ¬ k < 5; exact hk)⟩
theorem lw_K {s : State} {A : Array Value} (h : ∀ w ∈ lw_tbl, w.before A s = true) : ∃ (dC : Nat → ClassId) (dI : Nat → Nat → Nat) (tc : Nat → ClassId), ∀ ad : Int → Nat, gK (dC, dI, ad, tc) s := by
  have hA := lw_all h
  have hO := lw_AO h
  refine ⟨fun ci => (lw_cl hA ci).choose, fun ci => (lw_cl hA ci).choose_spec.choose, fun k => (lw_ty hA hO k).choose, fun ad => ⟨⟨fun ci q hq => (lw_cl hA ci).choose_spec.choose_spec q hq, fun k q hq => ?_⟩, lw_N h⟩⟩
  by_cases hk : k < 5
  · rcases (show k = 0 ∨ k = 1 ∨ k = 2 ∨ k = 3 ∨ k = 4 by omega) with e | e | e | e | e <;> subst e <;> cases hq
    · exact (lw_ty hA hO 0).choose_spec _ rfl
    · exact (lw_ty hA hO 1).choose_spec _ rfl
    · exact (lw_ty hA hO 2).choose_spec _ rfl
    · exact (lw_ty hA hO 3).choose_spec _ rfl
    · exact (lw_ty hA hO 4).choose_spec _ rfl
  · exact absurd (List.getElem?_eq_some_iff.mp hq).1 (by show ¬ k < 5; exact hk)
set_option maxRecDepth 100000 in
set_option maxHeartbeats 8000000 in
theorem whole_start {p : Program} {e : Env} {s : State} {m : MethodId} {below : List Frame} {meth : Method} {c : Code} (l : Launch) {b L : Nat} {xs : Nat → Int32} (hL : L ≤ 3072) (C0 : lw_At p s m meth c b L xs) : W p l e room_1 s m #[Value.ref b] below meth c s.heap [] 0 0 (lw_Z below #[Value.ref b] s) (entryFrame m ([Value.ref b] : List Value).toArray 4) := by
  obtain ⟨hx, hb, hr, hml, hown, hts, hXs, hbl, hlk, -⟩ := C0
  obtain ⟨dC, dI, tc, hK⟩ := lw_K hts
  have hK := hK (gad s.heap.size)
  have hY : gCk (p, l, e, room_1, s, m, #[Value.ref b], below, meth, c, lw_Z below #[Value.ref b] s) (dC, dI, gad s.heap.size, tc) none s.heap.size code 4 RL 18 125 10742 := ⟨hx, hb, hml, hown, lw_all hts, hK, lw_AO hts, ⟨Nat.le_of_ble_eq_true rfl, Nat.le_of_ble_eq_true rfl, Nat.le_of_ble_eq_true rfl, Nat.le_of_ble_eq_true rfl⟩, fun a h => by (cases h), rfl⟩
  have hl := lv_entry [Value.ref b] (n := 4) (Nat.le_of_ble_eq_true rfl)
  rw [lg_entry_eq]
  have start : gCW (p, l, e, room_1, s, m, #[Value.ref b], below, meth, c, lw_Z below #[Value.ref b] s) (dC, dI, gad s.heap.size, tc) none s.heap.size (.inr (0, [])) (gEall (dC, dI, gad s.heap.size, tc) s.heap.size) 0 0 0 [(0, .ref b)] [] := by
    refine k_new (ci := 7) (fs := [.null, .null, .null, .null, .null, .null, .null, .null]) hY rfl inG_X7 tyX7 tyX7_ok (gm_1 12 rfl rfl) (gm_1 13 rfl rfl) (gm_1 1 rfl rfl) (fun j hj => by rcases (show j = 0 ∨ j = 1 ∨ j = 2 ∨ j = 3 ∨ j = 4 ∨ j = 5 ∨ j = 6 ∨ j = 7 by omega) with rfl | rfl | rfl | rfl | rfl | rfl | rfl | rfl <;> rfl) (by omega) (by omega) dL_law_0 ?_
    refine k_dup hY dL_law_3 ?_
    refine k_callI (i0 := _) hY (fun l => n_X7 l _ _ _) (by omega) (if_pos rfl) rfl (gm_1 14 rfl rfl) (gm_1 15 rfl rfl) (gm_1 1 rfl rfl) (gm_1 16 rfl rfl) ⟨by decide, by decide, by decide +kernel⟩ (by decide) (by decide) (Nat.le_of_ble_eq_true rfl) (by omega) (by omega) dL_law_4 ?_
    refine k_catE rfl ?_ ?_
    · intro t ht
      unfold gEall
      rw [if_neg (by omega), if_pos (by omega), show 0 + 1 + t - 1 = t by omega]
    refine k_to (n' := 100) (sl' := 5523) rfl rfl rfl ?_
    refine k_astore (loc' := [(1, .ref (s.heap.size + 0)), (0, .ref b)]) hY dL_law_7 (by decide) rfl ?_
    refine k_new (ci := 8) (fs := [.null, .null, .null, .null, .null, .null, .int 0, .int 0, .int 0, .int 0, .int 0, .null, .null, .null, .null, .null, .int 0, .null, .null, .null, .null, .int 0, .null, .null, .null, .null, .int 0, .null, .int 0, .int 0, .null, .null, .null, .null]) hY rfl inG_X8 tyX8 tyX8_ok (gm_3 32 rfl rfl) (gm_3 33 rfl rfl) (gm_1 9 rfl rfl) (fun j hj => by rcases (show j = 0 ∨ j = 1 ∨ j = 2 ∨ j = 3 ∨ j = 4 ∨ j = 5 ∨ j = 6 ∨ j = 7 ∨ j = 8 ∨ j = 9 ∨ j = 10 ∨ j = 11 ∨ j = 12 ∨ j = 13 ∨ j = 14 ∨ j = 15 ∨ j = 16 ∨ j = 17 ∨ j = 18 ∨ j = 19 ∨ j = 20 ∨ j = 21 ∨ j = 22 ∨ j = 23 ∨ j = 24 ∨ j = 25 ∨ j = 26 ∨ j = 27 ∨ j = 28 ∨ j = 29 ∨ j = 30 ∨ j = 31 ∨ j = 32 ∨ j = 33 by omega) with rfl | rfl | rfl | rfl | rfl | rfl | rfl | rfl | rfl | rfl | rfl | rfl | rfl | rfl | rfl | rfl | rfl | rfl | rfl | rfl | rfl | rfl | rfl | rfl | rfl | rfl | rfl | rfl | rfl | rfl | rfl | rfl | rfl | rfl <;> rfl) (by omega) (by omega) dL_law_8 ?_
    refine k_dup hY dL_law_11 ?_
    refine k_callI (i0 := _) hY (fun l => n_X8 l _ _ _) (by omega) (if_pos rfl) rfl (gm_3 34 rfl rfl) (gm_3 35 rfl rfl) (gm_1 9 rfl rfl) (gm_3 36 rfl rfl) ⟨by decide, by decide, by decide +kernel⟩ (by decide) (by decide) (Nat.le_of_ble_eq_true rfl) (by omega) (by omega) dL_law_12 ?_
    refine k_catE rfl ?_ ?_
    · intro t ht
      unfold gEall
      rw [if_neg (by omega), if_neg (by omega), if_neg (by omega), show 100 + 1 + t - 101 = t by omega]
    refine k_to (n' := 125) (sl' := 10742) rfl rfl rfl ?_
    refine k_astore (loc' := [(2, .ref (s.heap.size + 100)), (1, .ref (s.heap.size + 0)), (0, .ref b)]) hY dL_law_15 (by decide) rfl ?_
    refine k_iconst (x := 0) hY dL_law_16 ?_
    refine k_istore (loc' := [(3, vi 0), (2, .ref (s.heap.size + 100)), (1, .ref (s.heap.size + 0)), (0, .ref b)]) hY dL_law_17 (by decide) rfl ?_
    intro H locs ls h1 h2 h3 h4 h5
    have hOk : gOk (p, l, e, room_1, s, m, #[Value.ref b], below, meth, c, 125, 10742, lw_Z below #[Value.ref b] s, gcS none s.heap.size) (dC, dI, gad s.heap.size, tc) code 4 RL ret 18 := ⟨hx, hb, hml, hr, hown, lw_all hts, hK, gad_inj _ _ _ _, hlk, ⟨Nat.le_of_ble_eq_true rfl, Nat.le_of_ble_eq_true rfl, Nat.le_of_ble_eq_true rfl, Nat.le_of_ble_eq_true rfl⟩, fun q hq => by
      obtain ⟨k, sh, -, e⟩ := hq
      rw [e]
      exact Or.inr (Nat.le_add_right _ _)⟩
    have hSc : gSc (p, l, e, room_1, s, m, #[Value.ref b], below, meth, c, 125, 10742, lw_Z below #[Value.ref b] s, gcS none s.heap.size) b L xs := ⟨hXs, hbl, fun z => by
      rcases z with z | z
      · cases z
      · omega⟩
    refine l_loop (G := (dC, dI, gad s.heap.size, tc)) hOk hSc hL (fun s' loc' => ?_) (L + 6) 0 gs0 (by omega) (by omega) (by omega) iv_0 H locs ls (gworld h3) h4 h5
    intro H' locs' ls' hW' hS' hl'
    refine va_forget (fun q hq => by rcases hS'.2.2 q hq with z | z; cases z; exact z) ?_
    refine lv_iconst (v := 1) hx hb dL_law_898 rfl ?_
    refine W.widen (k := 600000) (n := 7302250) (by omega) (by omega) ?_
    exact lw_ret hx hb hr hlk dL_law_899
  exact start s.heap [] _ rfl (fun a h => by (cases h)) (fun i h => absurd h (Nat.not_lt_zero i)) va_S.rf (by rw [hml]; exact hl)
set_option maxHeartbeats 4000000 in
theorem lw_walk (l : Launch) (b : Addr) (xs : List Int32) : MetFree l x (headSpec (Jvm.Cond.code x code maxLocals ret :: tables_1) room_1) (lw_P b xs) (fun _ _ _ _ _ => True) lw_Q := by
  refine MetFree.of_bodyS (code := code) (maxLocals := maxLocals) (ret := ret) (by decide) ?_ ?_
  · intro args s m h hn
    obtain ⟨meth, c, h1, h2, h3, h4, h5, h6, -, -⟩ := Cond.code_spec hn (atoms_spec (ws := Jvm.Cond.code x code maxLocals ret :: tables_1) h _ List.mem_cons_self)
    exact ⟨meth, c, h1, h2, h3, h4, h5, h6⟩
  · intro p e s m args below meth c s₁ B hml0 hP _
    obtain ⟨rfl, hx, hbd, hgv⟩ := hP
    obtain ⟨scr, harrAt, hlist, hof, hsmall⟩ := hx
    obtain ⟨hcb, hkn, -, -⟩ := State.arrayAt?_spec harrAt
    have hown : s.vm.findClass R_law = some m.cls := findClass_of_methodNamed B.named
    have hts0 : ∀ c ∈ (Jvm.Cond.code x code maxLocals ret :: tables_1), c.before #[Value.ref b] s = true := atoms_spec (ws := Jvm.Cond.code x code maxLocals ret :: tables_1) B.pre
    have hts : ∀ w ∈ lw_tbl, w.before #[Value.ref b] s = true := k2_hts_sels lw_privs (fun w hw => hts0 w (List.mem_cons_of_mem _ hw)) lw_privs_ok
    have hml : c.maxLocals = 4 := B.maxLocals_eq (hts0 _ List.mem_cons_self)
    have X₀ : Stand p l e room_1 s m #[Value.ref b] below meth c s₁ [] 0 0 := Stand.of_body B
    have hh0 : s₁.heap = s.heap := by rw [B.state]; rfl
    have hsz : scr.slots.size = xs.length := by rw [← Array.length_toList, hlist, List.length_map]
    have hval : ∀ j : Nat, j < xs.length → scr.slots[j]? = some (.int (xs.getD j 0)) := fun j hj => by
      rw [← Array.getElem?_toList, hlist]
      simp [hj]
    have hbl : b < s.heap.size := (Array.getElem?_eq_some_iff.mp hcb).1
    have hX : va_X b xs.length (fun j => xs.getD j 0) s s.heap := ⟨scr, hcb, hof, hkn, hsz, hval⟩
    have K : W p l e room_1 s m #[Value.ref b] below meth c s₁.heap [] 0 0 (lw_Z below #[Value.ref b] s) (entryFrame m ([Value.ref b] : List Value).toArray 4) := by
      rw [hh0]
      exact whole_start l hbd ⟨B.exec, B.bytes, B.returns, hml, hown, hts, hX, hbl, B.notSynchronized, hgv⟩
    obtain ⟨t, a1, o, b1, b2, b3⟩ := K s₁ rfl X₀
    exact ⟨t, o, a1, b1, b2, b3⟩
theorem lw_pre_spec {args : Array Value} {s : State} (h : (Jvm.Cond.and given_1 narrow_1).before args s = true) (hr : rest_1_c.before args s = true) : ∃ (b : Addr) (xs : List Int32), lw_P b xs args s := by
  have hs := flat_of_before _ h
  have hq := flat_of_before _ hr
  have hc : (Cond.count 1).before args s = true := hs _ (by decide +kernel)
  have harr : (Cond.arrayOf (.arg 0) .int).before args s = true := hs _ (by decide +kernel)
  have hle : (Cond.le (.length (.arg 0)) (.int 3072)).before args s = true := hs _ (by decide +kernel)
  have hlen : (Cond.isInt (.length (.arg 0))).before args s = true := hq _ (by decide +kernel)
  have hall : (Cond.all (.arg 0) (.isInt (.elem (.arg 0) (.index 0)))).before args s = true := hq _ (by decide +kernel)
  obtain ⟨b, xs, hb, hx⟩ := State.ints_of_pre rfl harr hlen hall
  have hsm : xs.length < 2 ^ 31 := hx.choose_spec.2.2.2
  have hev : (Term.length (.arg 0)).eval args s none [] s = some (.int xs.length.toInt32) := hx.length_eval hb
  have hv := Cond.le_ints hev (show (Term.int 3072).eval args s none [] s = some (.int 3072) from rfl)
  have hd : xs.length.toInt32 ≤ 3072 := by
    simpa [Cond.before, Cond.holds, hv] using hle
  have hN : xs.length ≤ 3072 := (Int32.ofNat_le_ofNat hsm (by decide)).mp (show Int32.ofNat xs.length ≤ Int32.ofNat 3072 from hd)
  exact ⟨b, xs, Cond.one_arg hc (show args[0]? = some (.ref b) from hb), hx, hN, h⟩
theorem lw_comes (l : Launch) : Comes l x (Jvm.Cond.code x code maxLocals ret :: tables_1) room_1 (fun tb e args s => Calls_1 tb e args s ∧ rest_1 tb e args s ∧ Pre_1 tb e args s)
    (fun _ _ args s o t => lw_Q args s o t) := by
  intro p e ha hc hk s m args below hf hfit hheap happ hpre
  obtain ⟨b, xs, hP⟩ := lw_pre_spec hpre.2.2 hpre.2.1
  obtain ⟨k, o, h1, h2, h3, hQ⟩ := lw_walk l b xs p e ha hc hk s m args below hf ((Spec.applies_iff_loose hf).mp happ).1 hP trivial
  exact ⟨k, o, h1, h2, h3, hQ⟩
theorem lw_frame {s t : State} {o : Outcome} {args : Array Value} (h : Framed s o t [] 600000 7302250) :
    Framed s o t (fieldLocs frame_1_writes args s ++ arrayLocs frame_1_arrays args s ++ staticLocs frame_1_statics s) 600000 7302250 := h
theorem lw_limb (L : Cond) (hL : ∀ (args : Array Value) (s t : State), L.after args s (.returned (some (.int 1))) t = true) :
    ArmFor flags0 classFile x code maxLocals ret World_1 tables_1 room_1 Calls_1 rest_1 Pre_1
      (fun tb e a s o t => postC L tb e a s o t ∧ Framed s o t (fieldLocs frame_1_writes a s ++ arrayLocs frame_1_arrays a s ++ staticLocs frame_1_statics s) 600000 7302250) := by
  intro l _ _ _ p e ha hc hk s m args below hf hfit hheap happ hpre
  obtain ⟨k, o, h1, h2, h3, rfl, hF⟩ := lw_comes l p e ha hc hk s m args below hf hfit hheap happ hpre
  exact ⟨k, _, h1, h2, h3, hL args s _, lw_frame hF⟩
theorem i_vc : Claimed_1_1 ∧ Claimed_1_2 := ⟨lw_limb limb_1_1 (fun args s t => by simp [limb_1_1, Cond.after, Cond.holds, Cond.value]), lw_limb limb_1_2 (fun args s t => Cond.after_iff.mpr (by
  first | (rw [show limb_1_2 = Cond.eq .result (.int 1) from rfl, Cond.eq_ints (x := 1) (y := 1) rfl rfl]; simp; done) | (simp [limb_1_2, Cond.value, Term.eval]; done)))⟩

