theorem gOk.inj {X : gX} {G : gG} {cc : ByteArray} {nL : Nat} {own : String} {ret : Option FieldType} {lv : Nat} (h : gOk X G cc nL own ret lv) : gInj G := by
  obtain ⟨p, l, e, R, s, m, args, below, meth, c, cells, slots, Q, A⟩ := X
  exact h.2.2.2.2.2.2.2.1
def gRg (σ : gS) : Prop := (∀ k j, rng (σ.1 k j)) ∧ ∀ k i, rng (σ.2 k i)
theorem gb_n0 {p : Prop} [Decidable p] : ¬ gb p = 0 ↔ p := by
  by_cases h : p <;> simp [gb, h]
theorem gnn {p : Prop} (h : ¬ ¬ p) : p := Classical.not_not.mp h
section GCALLS
variable {X : gX} {G : gG} {σ : gS} {pc : Nat} {loc : List (Nat × Value)} {st : List Value} {cc : ByteArray} {nL : Nat} {own : String} {ret : Option FieldType} {lv : Nat}
theorem g_cVf {y : MethodName} {bytes : ByteArray} {maxL n ci index lv' : Nat} {r' : Option FieldType} {k0 : Int} {fl : List (Option Int)} {As stk : List Value} {f : Int} {σ1 : gS} (hX : gOk X G cc nL own ret lv) (hM : ∀ l : Launch, gMet l G y bytes maxL r' lv' (gR G k0 :: As) σ (gPi (fun v σ' => (v = f ∧ σ' = σ1) ∧ gRg σ'))) (hs : gshape k0 = some (.inl (ci, fl))) (hw : gCV own index y bytes maxL r' n ci) (hlv : lv' + 1 ≤ lv) (hn : As.length = n) (hst : (st.map fun v => v.category).sum ≤ 8) (hd : decode cc pc = .ok (.invokevirtual index, 3)) (hstk : stk = As.reverse ++ gR G k0 :: st) (k : gRg σ1 → gWL X G σ1 (pc + 3) loc (vi f :: st)) : gWL X G σ pc loc stk :=
  g_callV hX hM hs hw hlv hn hst hd hstk (fun r σ' hp => by obtain ⟨v, rfl, ⟨rfl, rfl⟩, hg⟩ := hp; exact k hg)
theorem g_cSf {y : MethodName} {bytes : ByteArray} {maxL n index lv' : Nat} {r' : Option FieldType} {As stk : List Value} {f : Int} {σ1 : gS} (hX : gOk X G cc nL own ret lv) (hM : ∀ l : Launch, gMet l G y bytes maxL r' lv' As σ (gPi (fun v σ' => (v = f ∧ σ' = σ1) ∧ gRg σ'))) (hw : gCS own index y bytes maxL r' n) (hlv : lv' + 1 ≤ lv) (hn : As.length = n) (hst : (st.map fun v => v.category).sum ≤ 8) (hd : decode cc pc = .ok (.invokestatic index, 3)) (hstk : stk = As.reverse ++ st) (k : gRg σ1 → gWL X G σ1 (pc + 3) loc (vi f :: st)) : gWL X G σ pc loc stk :=
  g_callS hX hM hw hlv hn hst hd hstk (fun r σ' hp => by obtain ⟨v, rfl, ⟨rfl, rfl⟩, hg⟩ := hp; exact k hg)
theorem g_cSNf {y : MethodName} {bytes : ByteArray} {maxL n index lv' : Nat} {host : String} {r' : Option FieldType} {As stk : List Value} {f : Int} {σ1 : gS} (hX : gOk X G cc nL own ret lv) (hM : ∀ l : Launch, gMet l G y bytes maxL r' lv' As σ (gPi (fun v σ' => (v = f ∧ σ' = σ1) ∧ gRg σ'))) (hw : gCN own index y host bytes maxL r' n) (hlv : lv' + 1 ≤ lv) (hn : As.length = n) (hst : (st.map fun v => v.category).sum ≤ 8) (hd : decode cc pc = .ok (.invokestatic index, 3)) (hstk : stk = As.reverse ++ st) (k : gRg σ1 → gWL X G σ1 (pc + 3) loc (vi f :: st)) : gWL X G σ pc loc stk :=
  g_callSN hX hM hw hlv hn hst hd hstk (fun r σ' hp => by obtain ⟨v, rfl, ⟨rfl, rfl⟩, hg⟩ := hp; exact k hg)
theorem g_cVw {y : MethodName} {bytes : ByteArray} {maxL n ci index lv' : Nat} {r' : Option FieldType} {k0 : Int} {fl : List (Option Int)} {As stk : List Value} {σ1 : gS} (hX : gOk X G cc nL own ret lv) (hM : ∀ l : Launch, gMet l G y bytes maxL r' lv' (gR G k0 :: As) σ (gPv (fun σ' => (σ' = σ1) ∧ gRg σ'))) (hs : gshape k0 = some (.inl (ci, fl))) (hw : gCV own index y bytes maxL r' n ci) (hlv : lv' + 1 ≤ lv) (hn : As.length = n) (hst : (st.map fun v => v.category).sum ≤ 8) (hd : decode cc pc = .ok (.invokevirtual index, 3)) (hstk : stk = As.reverse ++ gR G k0 :: st) (k : gRg σ1 → gWL X G σ1 (pc + 3) loc st) : gWL X G σ pc loc stk :=
  g_callV hX hM hs hw hlv hn hst hd hstk (fun r σ' hp => by obtain ⟨rfl, rfl, hg⟩ := hp; exact k hg)
theorem g_cSw {y : MethodName} {bytes : ByteArray} {maxL n index lv' : Nat} {r' : Option FieldType} {As stk : List Value} {σ1 : gS} (hX : gOk X G cc nL own ret lv) (hM : ∀ l : Launch, gMet l G y bytes maxL r' lv' As σ (gPv (fun σ' => (σ' = σ1) ∧ gRg σ'))) (hw : gCS own index y bytes maxL r' n) (hlv : lv' + 1 ≤ lv) (hn : As.length = n) (hst : (st.map fun v => v.category).sum ≤ 8) (hd : decode cc pc = .ok (.invokestatic index, 3)) (hstk : stk = As.reverse ++ st) (k : gRg σ1 → gWL X G σ1 (pc + 3) loc st) : gWL X G σ pc loc stk :=
  g_callS hX hM hw hlv hn hst hd hstk (fun r σ' hp => by obtain ⟨rfl, rfl, hg⟩ := hp; exact k hg)
theorem g_cSNw {y : MethodName} {bytes : ByteArray} {maxL n index lv' : Nat} {host : String} {r' : Option FieldType} {As stk : List Value} {σ1 : gS} (hX : gOk X G cc nL own ret lv) (hM : ∀ l : Launch, gMet l G y bytes maxL r' lv' As σ (gPv (fun σ' => (σ' = σ1) ∧ gRg σ'))) (hw : gCN own index y host bytes maxL r' n) (hlv : lv' + 1 ≤ lv) (hn : As.length = n) (hst : (st.map fun v => v.category).sum ≤ 8) (hd : decode cc pc = .ok (.invokestatic index, 3)) (hstk : stk = As.reverse ++ st) (k : gRg σ1 → gWL X G σ1 (pc + 3) loc st) : gWL X G σ pc loc stk :=
  g_callSN hX hM hw hlv hn hst hd hstk (fun r σ' hp => by obtain ⟨rfl, rfl, hg⟩ := hp; exact k hg)
theorem g_cVr {y : MethodName} {bytes : ByteArray} {maxL n ci index lv' : Nat} {r' : Option FieldType} {k0 : Int} {fl : List (Option Int)} {As stk : List Value} {q : Int → gS → Prop} (hX : gOk X G cc nL own ret lv) (hM : ∀ l : Launch, gMet l G y bytes maxL r' lv' (gR G k0 :: As) σ (gPi q)) (hs : gshape k0 = some (.inl (ci, fl))) (hw : gCV own index y bytes maxL r' n ci) (hlv : lv' + 1 ≤ lv) (hn : As.length = n) (hst : (st.map fun v => v.category).sum ≤ 8) (hd : decode cc pc = .ok (.invokevirtual index, 3)) (hstk : stk = As.reverse ++ gR G k0 :: st) (k : ∀ (v : Int) (σ' : gS), q v σ' → gWL X G σ' (pc + 3) loc (vi v :: st)) : gWL X G σ pc loc stk :=
  g_callV hX hM hs hw hlv hn hst hd hstk (fun r σ' hp => by obtain ⟨v, rfl, hq⟩ := hp; exact k v σ' hq)
theorem g_cSr {y : MethodName} {bytes : ByteArray} {maxL n index lv' : Nat} {r' : Option FieldType} {As stk : List Value} {q : Int → gS → Prop} (hX : gOk X G cc nL own ret lv) (hM : ∀ l : Launch, gMet l G y bytes maxL r' lv' As σ (gPi q)) (hw : gCS own index y bytes maxL r' n) (hlv : lv' + 1 ≤ lv) (hn : As.length = n) (hst : (st.map fun v => v.category).sum ≤ 8) (hd : decode cc pc = .ok (.invokestatic index, 3)) (hstk : stk = As.reverse ++ st) (k : ∀ (v : Int) (σ' : gS), q v σ' → gWL X G σ' (pc + 3) loc (vi v :: st)) : gWL X G σ pc loc stk :=
  g_callS hX hM hw hlv hn hst hd hstk (fun r σ' hp => by obtain ⟨v, rfl, hq⟩ := hp; exact k v σ' hq)
theorem g_cSNr {y : MethodName} {bytes : ByteArray} {maxL n index lv' : Nat} {host : String} {r' : Option FieldType} {As stk : List Value} {q : Int → gS → Prop} (hX : gOk X G cc nL own ret lv) (hM : ∀ l : Launch, gMet l G y bytes maxL r' lv' As σ (gPi q)) (hw : gCN own index y host bytes maxL r' n) (hlv : lv' + 1 ≤ lv) (hn : As.length = n) (hst : (st.map fun v => v.category).sum ≤ 8) (hd : decode cc pc = .ok (.invokestatic index, 3)) (hstk : stk = As.reverse ++ st) (k : ∀ (v : Int) (σ' : gS), q v σ' → gWL X G σ' (pc + 3) loc (vi v :: st)) : gWL X G σ pc loc stk :=
  g_callSN hX hM hw hlv hn hst hd hstk (fun r σ' hp => by obtain ⟨v, rfl, hq⟩ := hp; exact k v σ' hq)
theorem g_cVu {y : MethodName} {bytes : ByteArray} {maxL n ci index lv' : Nat} {r' : Option FieldType} {k0 : Int} {fl : List (Option Int)} {As stk : List Value} {q : gS → Prop} (hX : gOk X G cc nL own ret lv) (hM : ∀ l : Launch, gMet l G y bytes maxL r' lv' (gR G k0 :: As) σ (gPv q)) (hs : gshape k0 = some (.inl (ci, fl))) (hw : gCV own index y bytes maxL r' n ci) (hlv : lv' + 1 ≤ lv) (hn : As.length = n) (hst : (st.map fun v => v.category).sum ≤ 8) (hd : decode cc pc = .ok (.invokevirtual index, 3)) (hstk : stk = As.reverse ++ gR G k0 :: st) (k : ∀ (σ' : gS), q σ' → gWL X G σ' (pc + 3) loc st) : gWL X G σ pc loc stk :=
  g_callV hX hM hs hw hlv hn hst hd hstk (fun r σ' hp => by obtain ⟨rfl, hq⟩ := hp; exact k σ' hq)
theorem g_cSu {y : MethodName} {bytes : ByteArray} {maxL n index lv' : Nat} {r' : Option FieldType} {As stk : List Value} {q : gS → Prop} (hX : gOk X G cc nL own ret lv) (hM : ∀ l : Launch, gMet l G y bytes maxL r' lv' As σ (gPv q)) (hw : gCS own index y bytes maxL r' n) (hlv : lv' + 1 ≤ lv) (hn : As.length = n) (hst : (st.map fun v => v.category).sum ≤ 8) (hd : decode cc pc = .ok (.invokestatic index, 3)) (hstk : stk = As.reverse ++ st) (k : ∀ (σ' : gS), q σ' → gWL X G σ' (pc + 3) loc st) : gWL X G σ pc loc stk :=
  g_callS hX hM hw hlv hn hst hd hstk (fun r σ' hp => by obtain ⟨rfl, hq⟩ := hp; exact k σ' hq)
theorem g_cSNu {y : MethodName} {bytes : ByteArray} {maxL n index lv' : Nat} {host : String} {r' : Option FieldType} {As stk : List Value} {q : gS → Prop} (hX : gOk X G cc nL own ret lv) (hM : ∀ l : Launch, gMet l G y bytes maxL r' lv' As σ (gPv q)) (hw : gCN own index y host bytes maxL r' n) (hlv : lv' + 1 ≤ lv) (hn : As.length = n) (hst : (st.map fun v => v.category).sum ≤ 8) (hd : decode cc pc = .ok (.invokestatic index, 3)) (hstk : stk = As.reverse ++ st) (k : ∀ (σ' : gS), q σ' → gWL X G σ' (pc + 3) loc st) : gWL X G σ pc loc stk :=
  g_callSN hX hM hw hlv hn hst hd hstk (fun r σ' hp => by obtain ⟨rfl, hq⟩ := hp; exact k σ' hq)
theorem g_top {a b : Int} (e : a = b) (k : gWL X G σ pc loc (vi b :: st)) : gWL X G σ pc loc (vi a :: st) := e ▸ k
end GCALLS

/-! ===== reading what was written ===== -/
theorem gpI_eq {σ : gS} {k : Int} {j : Nat} {v : Int} : (gpI σ k j v).1 k j = v := if_pos ⟨rfl, rfl⟩
theorem gpI_nk {σ : gS} {k k' : Int} {j j' : Nat} {v : Int} (h : k' ≠ k) : (gpI σ k j v).1 k' j' = σ.1 k' j' := if_neg (fun e => h e.1)
theorem gpI_nj {σ : gS} {k k' : Int} {j j' : Nat} {v : Int} (h : j' ≠ j) : (gpI σ k j v).1 k' j' = σ.1 k' j' := if_neg (fun e => h e.2)
theorem gpI_2 {σ : gS} {k : Int} {j : Nat} {v : Int} : (gpI σ k j v).2 = σ.2 := rfl
theorem gpA_1 {σ : gS} {k i v : Int} : (gpA σ k i v).1 = σ.1 := rfl
theorem gpA_eq {σ : gS} {k i v : Int} : (gpA σ k i v).2 k i = v := if_pos ⟨rfl, rfl⟩
theorem gpA_nk {σ : gS} {k k' i i' v : Int} (h : k' ≠ k) : (gpA σ k i v).2 k' i' = σ.2 k' i' := if_neg (fun e => h e.1)
theorem gpA_ni {σ : gS} {k k' i i' v : Int} (h : i' ≠ i) : (gpA σ k i v).2 k' i' = σ.2 k' i' := if_neg (fun e => h e.2)
theorem gRg_I {σ : gS} {k : Int} {j : Nat} {v : Int} (h : gRg σ) (hv : rng v) : gRg (gpI σ k j v) := by
  refine ⟨fun k' j' => ?_, h.2⟩
  by_cases e : k' = k ∧ j' = j
  · have : (gpI σ k j v).1 k' j' = v := if_pos e
    rw [this]; exact hv
  · have : (gpI σ k j v).1 k' j' = σ.1 k' j' := if_neg e
    rw [this]; exact h.1 _ _
theorem gRg_A {σ : gS} {k i v : Int} (h : gRg σ) (hv : rng v) : gRg (gpA σ k i v) := by
  refine ⟨h.1, fun k' i' => ?_⟩
  by_cases e : k' = k ∧ i' = i
  · have : (gpA σ k i v).2 k' i' = v := if_pos e
    rw [this]; exact hv
  · have : (gpA σ k i v).2 k' i' = σ.2 k' i' := if_neg e
    rw [this]; exact h.2 _ _
theorem rng_of {n : Int} (h0 : -2147483648 ≤ n) (h1 : n ≤ 2147483647) : rng n := ⟨h0, h1⟩

