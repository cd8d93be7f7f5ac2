/-! ===== constructors: a heap that grows ===== -/
def gAO (U : State) : Prop := va_AO "GleePrize$Piece" U ∧ va_AO "GleePrize$Recording" U ∧ (Cond.arrayOver (.array .int)).before #[] U = true
theorem gAO.moved {u U : State} (h : u.vm.Alike U.vm) (a : gAO u) : gAO U := ⟨a.1.moved h, a.2.1.moved h, Stand.arrayOver_alikeB h a.2.2⟩
abbrev gY : Type := Program × Launch × Env × Room × State × MethodId × Array Value × List Frame × Method × Code × (State → Prop)
def gcS (h0 : Option Nat) (b : Nat) : Nat → Prop := fun q => h0 = some q ∨ b ≤ q
def gup (E : Nat → va_E) (i : Nat) (e : va_E) : Nat → va_E := fun j => if j = i then e else E j
def gcat (E : Nat → va_E) (n i0 : Nat) (e : va_E) (E2 : Nat → va_E) : Nat → va_E := fun i => if i = i0 then e else if i < n then E i else E2 (i - n)
def gCW (Y : gY) (G : gG) (h0 : Option Nat) (b : Nat) (T : va_E) (E : Nat → va_E) (n sl pc : Nat) (loc : List (Nat × Value)) (st : List Value) : Prop := match Y with
  | (p, l, e, R, s, m, args, below, meth, c, Q) => ∀ (H : Heap) (locs : List Loc) (ls : Array Slot), H.size = b + n → (∀ a, h0 = some a → va_at (G.1, G.2.1) vwCl (a, T) H) → (∀ i, i < n → va_at (G.1, G.2.1) vwCl (b + i, E i) H) → va_S (gcS h0 b) s.heap H locs → lv_has ls c.maxLocals loc → W p l e R s m args below meth c H locs n sl Q (F0 m pc ls st)
def gCk (Y : gY) (G : gG) (h0 : Option Nat) (b : Nat) (cc : ByteArray) (nL : Nat) (own : String) (lv kc ks : Nat) : Prop := match Y with
  | (p, l, e, R, s, m, args, below, meth, c, Q) => p.tables.exec = Jvm.exec ∧ c.code = cc ∧ c.maxLocals = nL ∧ s.vm.findClass own = some m.cls ∧ (∀ w ∈ gAll, w.before args s = true) ∧ gK G s ∧ gAO s ∧ (lv ≤ R.frames ∧ 40 * lv ≤ R.locals ∧ kc ≤ R.cells ∧ ks ≤ R.slots) ∧ (∀ a, h0 = some a → a < b) ∧ s.heap.size = b
def gCi (Y : gY) : Prop := match Y with
  | (p, l, e, R, s, m, args, below, meth, c, Q) => meth.sig.returnType = none ∧ meth.locks = false ∧ meth.name = "<init>"
def gNQ (G : gG) (a b ci : Nat) (fs1 : List Value) (E : Nat → va_E) (kc : Nat) : Array Value → State → Outcome → State → Prop := fun _ st oc t => (oc = .returned none ∧ t.heap.size = b + kc ∧ va_at (G.1, G.2.1) vwCl (a, .inr (ci, fs1)) t.heap ∧ ∀ i, i < kc → va_at (G.1, G.2.1) vwCl (b + i, E i) t.heap) ∧ va_F (gcS (some a) b) st t
def gCe (Y : gY) (G : gG) (a b ci : Nat) (fs1 : List Value) (E : Nat → va_E) (kc ks : Nat) : Prop := match Y with
  | (p, l, e, R, s, m, args, below, meth, c, Q) => Q = MQ below (gNQ G a b ci fs1 E kc) args s kc ks (gcS (some a) b)
def gNM (l : Launch) (G : gG) (y : MethodName) (bytes : ByteArray) (nL lv ci kc ks : Nat) (fs0 fs1 : List Value) (E : Nat → va_E) (a b : Nat) : Prop :=
  Met l y (Cond.code y bytes nL none :: gAll) { frames := lv, cells := kc, slots := ks, locals := 40 * lv } (va_Pc [.ref a] (fun U => (U.heap.size = b ∧ a < b ∧ va_at (G.1, G.2.1) vwCl (a, .inr (ci, fs0)) U.heap) ∧ gK G U ∧ gAO U)) (gNQ G a b ci fs1 E kc) kc ks (gcS (some a) b)
theorem gNM_of {l : Launch} {G : gG} {y : MethodName} {bytes : ByteArray} {nL lv ci kc ks : Nat} {fs0 fs1 : List Value} {E : Nat → va_E} {a b : Nat} (hy : plainFor y = true) (hn : y.name = "<init>") (hlen : (lg_sl [Value.ref a]).length ≤ nL)
    (body : ∀ Y : gY, gCk Y G (some a) b bytes nL y.cls lv kc ks → gCi Y → gCe Y G a b ci fs1 E kc ks → gCW Y G (some a) b (.inr (ci, fs0)) E 0 0 0 [(0, .ref a)] []) : gNM l G y bytes nL lv ci kc ks fs0 fs1 E a b := by
  unfold gNM Met
  refine MetFree.of_bodySF (code := bytes) (maxLocals := nL) (ret := none) hy ?_ ?_
  · intro args s m h hn
    obtain ⟨meth, c, h1, h2, h3, h4, h5, h6, -, -⟩ := Cond.code_spec hn (atoms_spec (ws := Cond.code y bytes nL none :: gAll) h _ List.mem_cons_self)
    exact ⟨meth, c, h1, h2, h3, h4, h5, h6⟩
  · intro p e s m args below meth c s₁ B hml hv _
    have hh0 : s₁.heap = s.heap := by rw [B.state]; rfl
    obtain ⟨rfl, ⟨hsz, hab, hat⟩, hK, hAO⟩ := hv
    have hl := lv_entry [Value.ref a] (n := nL) hlen
    rw [lg_entry_eq]
    obtain ⟨t, a1, o, b1, b2, b3⟩ := body (p, l, e, _, s, m, _, below, meth, c, _) ⟨B.exec, B.bytes, hml, findClass_of_methodNamed B.named, fun w hw => atoms_spec (ws := Cond.code y bytes nL none :: gAll) B.pre w (List.mem_cons_of_mem _ hw), hK, hAO, ⟨Nat.le_refl _, Nat.le_refl _, Nat.le_refl _, Nat.le_refl _⟩, fun q h => by cases h; exact hab, hsz⟩ ⟨B.returns, B.notSynchronized, by rw [← hn]; exact (name_of_methodNamed B.named B.method).1⟩ rfl s.heap [] _ (by rw [hsz]; rfl) (fun q h => by cases h; exact hat) (fun i h => absurd h (Nat.not_lt_zero i)) va_S.rf (by rw [hml]; exact hl) s₁ hh0 (Stand.of_body B)
    exact ⟨t, o, a1, b1, b2, b3⟩
theorem g_outer (c : ClassId) (N h0 : Nat) : ∀ i : Nat, Jvm.Free.Multi.outerC c N h0 i = arrV c N (fun j => va_rf (if j < i then some (h0 + 1 + j) else none))
  | 0 => by
    show ({ cls := c, slots := Array.replicate N .null, vm := .none } : Cell) = _
    rw [arrV_new]
    refine congrArg (arrV c N) (funext fun j => ?_)
    simp [va_rf]
  | i + 1 => by
    show (Jvm.Free.Multi.outerC c N h0 i).setSlot i (.ref (h0 + 1 + i)) = _
    rw [g_outer c N h0 i, arrV_store]
    refine congrArg (arrV c N) (funext fun j => ?_)
    by_cases e : j = i
    · subst e
      simp [updV, va_rf]
    · by_cases h : j < i
      · simp [updV, e, h, Nat.lt_succ_of_lt h]
      · simp [updV, e, h, show ¬ j < i + 1 by omega]
section GCROWS
variable {Y : gY} {G : gG} {h0 : Option Nat} {b : Nat} {T : va_E} {E : Nat → va_E} {n sl pc : Nat} {loc : List (Nat × Value)} {st : List Value} {cc : ByteArray} {nL : Nat} {own : String} {lv kc ks : Nat}
theorem k_eq {E' : Nat → va_E} (he : ∀ i, i < n → E' i = E i) (k : gCW Y G h0 b T E' n sl pc loc st) : gCW Y G h0 b T E n sl pc loc st := by
  obtain ⟨p, l, e, R, s, m, args, below, meth, c, Q⟩ := Y
  intro H locs ls h1 h2 h3 h4 h5
  exact k H locs ls h1 h2 (fun i hi => by rw [he i hi]; exact h3 i hi) h4 h5
theorem k_aload {f : Fin 4} {x : Nat} (hY : gCk Y G h0 b cc nL own lv kc ks) (hd : decode cc pc = .ok (.aload_n f, 1)) (i : Nat) (hi : loc[i]? = some ((f : Nat), .ref x)) (k : gCW Y G h0 b T E n sl (pc + 1) loc (.ref x :: st)) : gCW Y G h0 b T E n sl pc loc st := by
  obtain ⟨p, l, e, R, s, m, args, below, meth, c, Q⟩ := Y
  obtain ⟨hx, hb, hml, hown, hts, hK, hAO, hrm, hh, hsz⟩ := hY
  intro H locs ls h1 h2 h3 h4 h5
  exact lv_aload_n hx hb hd rfl (lv_at h5 i hi) (k H locs ls h1 h2 h3 h4 h5)
theorem k_iload {f : Fin 4} {x : Int} (hY : gCk Y G h0 b cc nL own lv kc ks) (hd : decode cc pc = .ok (.iload_n f, 1)) (i : Nat) (hi : loc[i]? = some ((f : Nat), vi x)) (k : gCW Y G h0 b T E n sl (pc + 1) loc (vi x :: st)) : gCW Y G h0 b T E n sl pc loc st := by
  obtain ⟨p, l, e, R, s, m, args, below, meth, c, Q⟩ := Y
  obtain ⟨hx, hb, hml, hown, hts, hK, hAO, hrm, hh, hsz⟩ := hY
  intro H locs ls h1 h2 h3 h4 h5
  exact lv_iload_n hx hb hd rfl (lv_at h5 i hi) (k H locs ls h1 h2 h3 h4 h5)
theorem k_iconst {x : Int} (hY : gCk Y G h0 b cc nL own lv kc ks) (hd : decode cc pc = .ok (.iconst x, 1)) (k : gCW Y G h0 b T E n sl (pc + 1) loc (vi x :: st)) : gCW Y G h0 b T E n sl pc loc st := by
  obtain ⟨p, l, e, R, s, m, args, below, meth, c, Q⟩ := Y
  obtain ⟨hx, hb, hml, hown, hts, hK, hAO, hrm, hh, hsz⟩ := hY
  intro H locs ls h1 h2 h3 h4 h5
  exact lv_iconst hx hb hd rfl (k H locs ls h1 h2 h3 h4 h5)
theorem k_bipush {x : Int} (hY : gCk Y G h0 b cc nL own lv kc ks) (hd : decode cc pc = .ok (.bipush x, 2)) (hv : (Int8.ofInt x).toInt32 = Int32.ofInt x) (k : gCW Y G h0 b T E n sl (pc + 2) loc (vi x :: st)) : gCW Y G h0 b T E n sl pc loc st := by
  obtain ⟨p, l, e, R, s, m, args, below, meth, c, Q⟩ := Y
  obtain ⟨hx, hb, hml, hown, hts, hK, hAO, hrm, hh, hsz⟩ := hY
  intro H locs ls h1 h2 h3 h4 h5
  exact lv_bipush hx hb hd hv (k H locs ls h1 h2 h3 h4 h5)
theorem k_sipush {x : Int} (hY : gCk Y G h0 b cc nL own lv kc ks) (hd : decode cc pc = .ok (.sipush x, 3)) (hv : (Int16.ofInt x).toInt32 = Int32.ofInt x) (k : gCW Y G h0 b T E n sl (pc + 3) loc (vi x :: st)) : gCW Y G h0 b T E n sl pc loc st := by
  obtain ⟨p, l, e, R, s, m, args, below, meth, c, Q⟩ := Y
  obtain ⟨hx, hb, hml, hown, hts, hK, hAO, hrm, hh, hsz⟩ := hY
  intro H locs ls h1 h2 h3 h4 h5
  exact lv_sipush hx hb hd hv (k H locs ls h1 h2 h3 h4 h5)
theorem k_dup {x : Nat} (hY : gCk Y G h0 b cc nL own lv kc ks) (hd : decode cc pc = .ok (.dup, 1)) (k : gCW Y G h0 b T E n sl (pc + 1) loc (.ref x :: .ref x :: st)) : gCW Y G h0 b T E n sl pc loc (.ref x :: st) := by
  obtain ⟨p, l, e, R, s, m, args, below, meth, c, Q⟩ := Y
  obtain ⟨hx, hb, hml, hown, hts, hK, hAO, hrm, hh, hsz⟩ := hY
  intro H locs ls h1 h2 h3 h4 h5
  exact lv_dup hx hb hd rfl (k H locs ls h1 h2 h3 h4 h5)
theorem k_goto {off : Int} {tgt : Nat} (hY : gCk Y G h0 b cc nL own lv kc ks) (hd : decode cc pc = .ok (.goto off, 3)) (ht : (pc : Int) + off = (tgt : Int)) (k : gCW Y G h0 b T E n sl tgt loc st) : gCW Y G h0 b T E n sl pc loc st := by
  obtain ⟨p, l, e, R, s, m, args, below, meth, c, Q⟩ := Y
  obtain ⟨hx, hb, hml, hown, hts, hK, hAO, hrm, hh, hsz⟩ := hY
  intro H locs ls h1 h2 h3 h4 h5
  exact lv_goto hx hb hd ht (k H locs ls h1 h2 h3 h4 h5)
theorem k_icge {x y : Int} {off : Int} {tgt : Nat} (hY : gCk Y G h0 b cc nL own lv kc ks) (hx' : rng x) (hy' : rng y) (hd : decode cc pc = .ok (.if_icmp .ge off, 3)) (ht : (pc : Int) + off = (tgt : Int)) (kt : y ≤ x → gCW Y G h0 b T E n sl tgt loc st) (kf : x < y → gCW Y G h0 b T E n sl (pc + 3) loc st) : gCW Y G h0 b T E n sl pc loc (vi y :: vi x :: st) := by
  obtain ⟨p, l, e, R, s, m, args, below, meth, c, Q⟩ := Y
  obtain ⟨hx, hb, hml, hown, hts, hK, hAO, hrm, hh, hsz⟩ := hY
  intro H locs ls h1 h2 h3 h4 h5
  exact lv_icmp_ge hx hb hd ht (fun h => kt ((gI_le hy' hx').mp h) H locs ls h1 h2 h3 h4 h5) (fun h => kf (Int.not_le.mp (fun z => h ((gI_le hy' hx').mpr z))) H locs ls h1 h2 h3 h4 h5)
theorem k_istore {f : Fin 4} {x : Int} {loc' : List (Nat × Value)} (hY : gCk Y G h0 b cc nL own lv kc ks) (hd : decode cc pc = .ok (.istore_n f, 1)) (hn : (f : Nat) < nL) (hl' : ((f : Nat), vi x) :: loc.filter (fun q => !(q.1 == (f : Nat)) && !(q.1 + 1 == (f : Nat) && q.2.category == 2)) = loc') (k : gCW Y G h0 b T E n sl (pc + 1) loc' st) : gCW Y G h0 b T E n sl pc loc (vi x :: st) := by
  obtain ⟨p, l, e, R, s, m, args, below, meth, c, Q⟩ := Y
  obtain ⟨hx, hb, hml, hown, hts, hK, hAO, hrm, hh, hsz⟩ := hY
  intro H locs ls h1 h2 h3 h4 h5
  exact lv_istore_n hx hb hd rfl h5 (by rw [hml]; exact hn) hl' (fun ls hl => k H locs ls h1 h2 h3 h4 hl)
theorem k_astore {f : Fin 4} {x : Nat} {loc' : List (Nat × Value)} (hY : gCk Y G h0 b cc nL own lv kc ks) (hd : decode cc pc = .ok (.astore_n f, 1)) (hn : (f : Nat) < nL) (hl' : ((f : Nat), .ref x) :: loc.filter (fun q => !(q.1 == (f : Nat)) && !(q.1 + 1 == (f : Nat) && q.2.category == 2)) = loc') (k : gCW Y G h0 b T E n sl (pc + 1) loc' st) : gCW Y G h0 b T E n sl pc loc (.ref x :: st) := by
  obtain ⟨p, l, e, R, s, m, args, below, meth, c, Q⟩ := Y
  obtain ⟨hx, hb, hml, hown, hts, hK, hAO, hrm, hh, hsz⟩ := hY
  intro H locs ls h1 h2 h3 h4 h5
  exact lv_astore_n hx hb hd rfl h5 (by rw [hml]; exact hn) hl' (fun ls hl => k H locs ls h1 h2 h3 h4 hl)
theorem k_iinc {f : Nat} {x d : Int} {loc' : List (Nat × Value)} (hY : gCk Y G h0 b cc nL own lv kc ks) (hd : decode cc pc = .ok (.iinc f d, 3)) (i : Nat) (hi : loc[i]? = some (f, vi x)) (hn : f < nL) (hl' : (f, vi (x + d)) :: loc.filter (fun q => !(q.1 == f) && !(q.1 + 1 == f && q.2.category == 2)) = loc') (k : gCW Y G h0 b T E n sl (pc + 3) loc' st) : gCW Y G h0 b T E n sl pc loc st := by
  obtain ⟨p, l, e, R, s, m, args, below, meth, c, Q⟩ := Y
  obtain ⟨hx, hb, hml, hown, hts, hK, hAO, hrm, hh, hsz⟩ := hY
  intro H locs ls h1 h2 h3 h4 h5
  exact lv_iinc (v := Int32.ofInt (x + d)) hx hb hd h5 hi (by rw [Int32.ofInt_add]) (by rw [hml]; exact hn) hl' (fun ls hl => k H locs ls h1 h2 h3 h4 hl)
theorem k_objInit {x index : Nat} (hY : gCk Y G h0 b cc nL own lv kc ks) (w1 : Cond.methodLink own index Lib.objectInit ∈ gAll) (w2 : Cond.instanceMethod Lib.objectInit ∈ gAll) (w3 : Cond.code Lib.objectInit ⟨#[177]⟩ 1 none ∈ gAll) (hlv : 1 ≤ lv) (hst : (st.map fun v => v.category).sum ≤ 8) (hd : decode cc pc = .ok (.invokespecial index, 3)) (k : gCW Y G h0 b T E n sl (pc + 3) loc st) : gCW Y G h0 b T E n sl pc loc (.ref x :: st) := by
  obtain ⟨p, l, e, R, s, m, args, below, meth, c, Q⟩ := Y
  obtain ⟨hx, hb, hml, hown, hts, hK, hAO, hrm, hh, hsz⟩ := hY
  intro H locs ls h1 h2 h3 h4 h5
  have hr : 2 * (F0 m pc ls (.ref x :: st)).monitorRoom + (st.map fun v => v.category).sum ≤ 8 := lv_room hst
  exact W.objInit hx hb hown (hts _ w1) (hts _ w2) (hts _ w3) rfl h5.1 rfl hd (by omega) (by omega) (k H locs ls h1 h2 h3 h4 h5)
theorem gS_push {H H' : Heap} {s : Heap} {locs : List Loc} {d : Nat} (h : va_S (gcS h0 b) s H locs) (z : H'.size = H.size + d) (o : ∀ q, q < H.size → H'[q]? = H[q]?) : va_S (gcS h0 b) s H' locs := ⟨Nat.le_trans h.1 (by omega), fun x h1 h2 => (o x (Nat.lt_of_lt_of_le h1 h.1)).trans (h.2.1 x h1 h2), h.2.2⟩
theorem k_newa {x : Int} {N : Nat} (hY : gCk Y G h0 b cc nL own lv kc ks) (w : Cond.arrayClass .int ∈ gAll) (hx0 : ¬ Int32.ofInt x < 0) (hN : (Int32.ofInt x).toNatClampNeg = N) (hb4 : N * componentBytes .int ≤ 536870912) (h1' : n + 1 ≤ kc) (h2' : sl + N ≤ ks) (hd : decode cc pc = .ok (.newarray .int, 2)) (k : gCW Y G h0 b T (gup E n (.inl (G.2.2.2 0, N, .inl (fun _ => 0)))) (n + 1) (sl + N) (pc + 2) loc (.ref (b + n) :: st)) : gCW Y G h0 b T E n sl pc loc (vi x :: st) := by
  obtain ⟨p, l, e, R, s, m, args, below, meth, c, Q⟩ := Y
  obtain ⟨hx, hb, hml, hown, hts, hK, hAO, hrm, hh, hsz⟩ := hY
  intro H locs ls h1 h2 h3 h4 h5
  refine va_newaK (atype := .int) hx hb (hts _ w) rfl hd rfl hx0 hN hb4 (by omega) (by omega) h1 fun H1 cA e1 z1 o1 hAr hNm => ?_
  have hcA : cA = G.2.2.2 0 := Option.some.inj (hNm.symm.trans (hK.1.2 0 _ rfl).2)
  subst hcA
  refine k H1 locs ls (by omega) (fun a ha => (h2 a ha).kept (o1 a (by have := hh a ha; omega))) (fun i hi => ?_) (gS_push h4 (d := 1) (by omega) (by rw [h1]; exact o1)) h5
  unfold gup
  by_cases hi' : i = n
  · rw [if_pos hi', hi']; exact e1
  · rw [if_neg hi']; exact (h3 i (by omega)).kept (o1 (b + i) (by omega))
theorem k_newz {x : Int} {N : Nat} (hY : gCk Y G h0 b cc nL own lv kc ks) (w : Cond.arrayClass .boolean ∈ gAll) (hx0 : ¬ Int32.ofInt x < 0) (hN : (Int32.ofInt x).toNatClampNeg = N) (hb4 : N * componentBytes .boolean ≤ 536870912) (h1' : n + 1 ≤ kc) (h2' : sl + N ≤ ks) (hd : decode cc pc = .ok (.newarray .boolean, 2)) (k : gCW Y G h0 b T (gup E n (.inl (G.2.2.2 1, N, .inl (fun _ => 0)))) (n + 1) (sl + N) (pc + 2) loc (.ref (b + n) :: st)) : gCW Y G h0 b T E n sl pc loc (vi x :: st) := by
  obtain ⟨p, l, e, R, s, m, args, below, meth, c, Q⟩ := Y
  obtain ⟨hx, hb, hml, hown, hts, hK, hAO, hrm, hh, hsz⟩ := hY
  intro H locs ls h1 h2 h3 h4 h5
  refine va_newaK (atype := .boolean) hx hb (hts _ w) rfl hd rfl hx0 hN hb4 (by omega) (by omega) h1 fun H1 cA e1 z1 o1 hAr hNm => ?_
  have hcA : cA = G.2.2.2 1 := Option.some.inj (hNm.symm.trans (hK.1.2 1 _ rfl).2)
  subst hcA
  refine k H1 locs ls (by omega) (fun a ha => (h2 a ha).kept (o1 a (by have := hh a ha; omega))) (fun i hi => ?_) (gS_push h4 (d := 1) (by omega) (by rw [h1]; exact o1)) h5
  unfold gup
  by_cases hi' : i = n
  · rw [if_pos hi', hi']; exact e1
  · rw [if_neg hi']; exact (h3 i (by omega)).kept (o1 (b + i) (by omega))
theorem k_newq {x : Int} {N kd index : Nat} {C : String} (hY : gCk Y G h0 b cc nL own lv kc ks) (w : Cond.classLink own index C ∈ gAll) (hA : ∀ U : State, gAO U → va_AO C U) (hkd : (gtys G)[kd]? = some (G.2.2.2 kd, .object C)) (hx0 : ¬ Int32.ofInt x < 0) (hN : (Int32.ofInt x).toNatClampNeg = N) (hb4 : N * 4 ≤ 536870912) (h1' : n + 1 ≤ kc) (h2' : sl + N ≤ ks) (hd : decode cc pc = .ok (.anewarray index, 3)) (k : gCW Y G h0 b T (gup E n (.inl (G.2.2.2 kd, N, .inr (.inr (.inr (.inr (fun _ => none))))))) (n + 1) (sl + N) (pc + 3) loc (.ref (b + n) :: st)) : gCW Y G h0 b T E n sl pc loc (vi x :: st) := by
  obtain ⟨p, l, e, R, s, m, args, below, meth, c, Q⟩ := Y
  obtain ⟨hx, hb, hml, hown, hts, hK, hAO, hrm, hh, hsz⟩ := hY
  intro H locs ls h1 h2 h3 h4 h5
  subst hN
  refine W.anew hx hb hown (hts _ w) (va_AO.use (hA s hAO)) rfl hd rfl hx0 hb4 (by omega) (by omega) fun cA kA comp f1 f2 f3 f4 => ?_
  obtain ⟨_, _, _, _, _, f5⟩ := (hK.1.2 kd _ hkd).2
  have hcA : cA = G.2.2.2 kd := Option.some.inj (f1.symm.trans f5)
  subst hcA
  generalize hH1 : H.push ({ cls := G.2.2.2 kd, slots := Array.replicate (Int32.ofInt x).toNatClampNeg .null, vm := .none } : Cell) = H1
  have z1 : H1.size = H.size + 1 := by rw [← hH1, Array.size_push]
  have e1 : H1[H.size]? = some (arrV (G.2.2.2 kd) (Int32.ofInt x).toNatClampNeg (fun _ => .null)) := by rw [← hH1, Array.getElem?_push_size, ← arrV_new]
  have o1 : ∀ q : Nat, q < H.size → H1[q]? = H[q]? := fun q hq => by rw [← hH1, Array.getElem?_push, if_neg (Nat.ne_of_lt hq)]
  have hk := k H1 locs ls (by omega) (fun a ha => (h2 a ha).kept (o1 a (by have := hh a ha; omega))) (fun i hi => by
    unfold gup
    by_cases hi' : i = n
    · rw [if_pos hi', hi', ← h1]; exact e1
    · rw [if_neg hi']; exact (h3 i (by omega)).kept (o1 (b + i) (by omega))) (gS_push h4 z1 o1) h5
  rw [← h1] at hk
  exact hk
theorem k_mna {x y : Int} {N M index : Nat} (hY : gCk Y G h0 b cc nL own lv kc ks) (w : Cond.classLink own index ("[" ++ (FieldType.array .int).toString) ∈ gAll) (w2 : Cond.arrayClass .int ∈ gAll) (hx0 : ¬ Int32.ofInt x < 0) (hy0 : ¬ Int32.ofInt y < 0) (hN : (Int32.ofInt x).toNatClampNeg = N) (hM : (Int32.ofInt y).toNatClampNeg = M) (hb1 : N * 4 ≤ 536870912) (hb2 : M * componentBytes .int ≤ 536870912) (hb3 : M ≤ 536870912) (h1' : n + (1 + N) ≤ kc) (h2' : sl + (N + N * M) ≤ ks) (hd : decode cc pc = .ok (.multianewarray index 2, 4)) (k : gCW Y G h0 b T (gcat (gup E n (.inl (G.2.2.2 4, N, .inr (.inr (.inr (.inr (fun i => if i < N then some (b + n + 1 + i) else none))))))) (n + 1) n (.inl (G.2.2.2 4, N, .inr (.inr (.inr (.inr (fun i => if i < N then some (b + n + 1 + i) else none)))))) (fun _ => .inl (G.2.2.2 0, M, .inl (fun _ => 0)))) (n + 1 + N) (sl + N + N * M) (pc + 4) loc (.ref (b + n) :: st)) : gCW Y G h0 b T E n sl pc loc (vi y :: vi x :: st) := by
  obtain ⟨p, l, e, R, s, m, args, below, meth, c, Q⟩ := Y
  obtain ⟨hx, hb, hml, hown, hts, hK, hAO, hrm, hh, hsz⟩ := hY
  intro H locs ls h1 h2 h3 h4 h5
  subst hN
  subst hM
  intro TT hT Xs
  obtain ⟨vm₁, cA, comp, -, fA, fC, hO, -, X', step⟩ := Xs.multianewarray2F hx hown (hts _ w) hAO.2.2 (hts _ w2) (g := F0 m pc ls (vi y :: vi x :: st)) rfl (by rw [hb]; exact hd) rfl hx0 hy0 hb1 hb2 hb3 rfl rfl (by omega) (by omega)
  have hcA : cA = G.2.2.2 4 := Option.some.inj (fA.symm.trans (hK.1.2 4 _ rfl).2)
  have hcy : comp = G.2.2.2 0 := Option.some.inj (fC.symm.trans (hK.1.2 0 _ rfl).2)
  subst hcA
  subst hcy
  generalize hF : Jvm.Free.Multi.fill (TT.setVm vm₁) (G.2.2.2 4) (G.2.2.2 0) (Int32.ofInt x).toNatClampNeg (Int32.ofInt y).toNatClampNeg (defaultValue .int) (Int32.ofInt x).toNatClampNeg = F at X' step
  have hTh : (TT.setVm vm₁).heap = H := hT
  obtain ⟨f1, f2, -, -⟩ := Jvm.Free.Multi.fill_facts (TT.setVm vm₁) (G.2.2.2 4) (G.2.2.2 0) (Int32.ofInt x).toNatClampNeg (Int32.ofInt y).toNatClampNeg (defaultValue .int) (Int32.ofInt x).toNatClampNeg
  rw [hF, hTh] at f1 f2
  have hold : ∀ q : Nat, q < H.size → F.heap[q]? = H[q]? := fun q hq => by
    have := Jvm.Free.Multi.fill_old (TT.setVm vm₁) (G.2.2.2 4) (G.2.2.2 0) (Int32.ofInt x).toNatClampNeg (Int32.ofInt y).toNatClampNeg (defaultValue .int) (a := q) (by rw [hTh]; exact hq) (Int32.ofInt x).toNatClampNeg
    rw [hF, hTh] at this
    exact this
  have hrow : ∀ j : Nat, j < (Int32.ofInt x).toNatClampNeg → F.heap[H.size + 1 + j]? = some (vp_cell (G.2.2.2 0) ((Int32.ofInt y).toNatClampNeg, .inl (fun _ => 0))) := fun j hj => by
    have := Jvm.Free.Multi.fill_inner (TT.setVm vm₁) (G.2.2.2 4) (G.2.2.2 0) (Int32.ofInt x).toNatClampNeg (Int32.ofInt y).toNatClampNeg (defaultValue .int) (Int32.ofInt x).toNatClampNeg j hj
    rw [hF, hTh] at this
    rw [this]
    show some ({ cls := _, slots := Array.replicate _ _, vm := .none } : Cell) = _
    rw [arrV_new]
    rfl
  have hout : F.heap[H.size]? = some (vp_cell (G.2.2.2 4) ((Int32.ofInt x).toNatClampNeg, .inr (.inr (.inr (.inr (fun i => if i < (Int32.ofInt x).toNatClampNeg then some (H.size + 1 + i) else none)))))) := by
    rw [f2, vp_cell_q]
    exact congrArg some (g_outer (G.2.2.2 4) (Int32.ofInt x).toNatClampNeg H.size (Int32.ofInt x).toNatClampNeg)
  have hall : ∀ i : Nat, i < n + 1 + (Int32.ofInt x).toNatClampNeg → va_at (G.1, G.2.1) vwCl (b + i, gcat (gup E n (.inl (G.2.2.2 4, (Int32.ofInt x).toNatClampNeg, .inr (.inr (.inr (.inr (fun i => if i < (Int32.ofInt x).toNatClampNeg then some (b + n + 1 + i) else none))))))) (n + 1) n (.inl (G.2.2.2 4, (Int32.ofInt x).toNatClampNeg, .inr (.inr (.inr (.inr (fun i => if i < (Int32.ofInt x).toNatClampNeg then some (b + n + 1 + i) else none)))))) (fun _ => .inl (G.2.2.2 0, (Int32.ofInt y).toNatClampNeg, .inl (fun _ => 0))) i) F.heap := fun i hi => by
    unfold gcat
    by_cases hi' : i = n
    · rw [if_pos hi', hi', ← h1]; exact hout
    · rw [if_neg hi']
      by_cases hi2 : i < n + 1
      · rw [if_pos hi2]
        unfold gup
        rw [if_neg hi']
        exact (h3 i (by omega)).kept (hold (b + i) (by omega))
      · rw [if_neg hi2]
        have := hrow (i - (n + 1)) (by omega)
        rw [show H.size + 1 + (i - (n + 1)) = b + i by omega] at this
        exact this
  obtain ⟨t, a1, b1⟩ := k F.heap locs ls (by omega) (fun a ha => (h2 a ha).kept (hold a (by have := hh a ha; omega))) hall (gS_push h4 (d := 1 + (Int32.ofInt x).toNatClampNeg) (by omega) hold) h5 F rfl X'
  refine ⟨t, step t ?_, b1⟩
  rw [hT, h1]
  exact a1
theorem k_new {N ci index : Nat} {C : String} {TT : u_T} {fs : List Value} (hY : gCk Y G h0 b cc nL own lv kc ks) (hc : vwCl[ci]? = some (C, TT, N)) (hin : ∀ w ∈ u_ws C TT N, w ∈ gAll) (ty : Nat → FieldType) (hty : ∀ k, k < N → parseFieldDescriptor (TT k).2.2.1 = some (ty k)) (w1 : Cond.classLink own index C ∈ gAll) (w2 : Cond.instantiable C N ∈ gAll) (w3 : Cond.initialized C ∈ gAll) (hfs : ∀ j, j < N → defaultValue (ty j) = vp_V fs j) (h1' : n + 1 ≤ kc) (h2' : sl + N ≤ ks) (hd : decode cc pc = .ok (.new index, 3)) (k : gCW Y G h0 b T (gup E n (.inr (ci, fs))) (n + 1) (sl + N) (pc + 3) loc (.ref (b + n) :: st)) : gCW Y G h0 b T E n sl pc loc st := by
  obtain ⟨p, l, e, R, s, m, args, below, meth, c, Q⟩ := Y
  obtain ⟨hx, hb, hml, hown, hts, hK, hAO, hrm, hh, hsz⟩ := hY
  intro H locs ls h1 h2 h3 h4 h5
  have hKn := hK.1.1 ci _ hc
  refine W.newcK hx hb hown (hts _ w1) (hts _ w2) (hts _ w3) rfl hd (by omega) (by omega) hKn.2.1 h1 fun H1 kC hkC e1 z1 o1 => ?_
  refine k H1 locs ls (by omega) (fun a ha => (h2 a ha).kept (o1 a (by have := hh a ha; omega))) (fun i hi => ?_) (gS_push h4 (d := 1) (by omega) (by rw [h1]; exact o1)) h5
  unfold gup
  by_cases hi' : i = n
  · rw [if_pos hi', hi']; exact ⟨_, hc, (u_born ty hts hin hKn hkC e1 hty).to hfs⟩
  · rw [if_neg hi']; exact (h3 i (by omega)).kept (o1 (b + i) (by omega))
theorem k_put {a ci index j : Nat} {C : String} {TT : u_T} {N : Nat} {fs : List Value} {v : Value} {t0 : FieldType} (hY : gCk Y G (some a) b cc nL own lv kc ks) (hI : gCi Y) (hc : vwCl[ci]? = some (C, TT, N)) (hin : ∀ w ∈ u_ws C TT N, w ∈ gAll) (ty : Nat → FieldType) (hty : ∀ k, k < N → parseFieldDescriptor (TT k).2.2.1 = some (ty k)) (hnm : ∀ a, a < N → ∀ b, b < N → a ≠ b → (TT a).2.1 ≠ (TT b).2.1) (hj : j < N) (w : Cond.fieldLink own index (TT j).1 (TT j).2.1 (TT j).2.2.1 ∈ gAll) (hdecl : (TT j).1 = own) (hd0 : parseFieldDescriptor (TT j).2.2.1 = some t0) (hn : narrow t0 v = v) (hfit : fits t0 v = true) (hlen : j < fs.length) (hd : decode cc pc = .ok (.putfield index, 3)) (k : gCW Y G (some a) b (.inr (ci, fs.set j v)) E n sl (pc + 3) loc st) : gCW Y G (some a) b (.inr (ci, fs)) E n sl pc loc (v :: .ref a :: st) := by
  obtain ⟨p, l, e, R, s, m, args, below, meth, c, Q⟩ := Y
  obtain ⟨hx, hb, hml, hown, hts, hK, hAO, hrm, hh, hsz⟩ := hY
  obtain ⟨hr, hlk, hname⟩ := hI
  intro H locs ls h1 h2 h3 h4 h5
  have hap := va_apart (own := own) hts hin ty hty hnm hK.1 hc
  have hab := hh a rfl
  obtain ⟨r, h1', cell, q1, q2, q3, q4⟩ := h2 a rfl
  have hr : r = (C, TT, N) := Option.some.inj (h1'.symm.trans hc)
  subst hr
  obtain ⟨hSl, hfc, kC, hkC, hkind⟩ := hK.1.1 ci _ hc
  obtain ⟨cf, kf, fi, f, hi, hsl⟩ := hSl j hj
  have hlay := hts _ (hin _ (u_in_lay hj))
  have hst := (u_facts hfc hkC (u_lays hts hin hj) hi).1
  have fin : ∀ H' : Heap, H'[a]? = some (cell.setSlot f.slot v) → H'.size = H.size → (∀ q, q ≠ a → H'[q]? = H[q]?) → W p l e R s m args below meth c H' (locs ++ [⟨a, f.slot⟩]) n sl Q (F0 m (pc + 3) ls st) := by
    intro H' e1 e2 e3
    rw [hsl] at e1
    refine k H' _ ls (by omega) (fun x hx' => ?_) (fun i hi' => (h3 i hi').kept (e3 (b + i) (by omega))) (h4.put e2 e3 (Or.inl rfl)) h5
    cases hx'
    exact ⟨_, hc, t_OB.to (V := updV (vp_V fs) j v) ⟨_, e1, q2, q3, t_set q4 hap hj v⟩ (fun x _ => vp_updV_set hlen v x)⟩
  by_cases hfin : (TT j).2.2.2 = true
  · unfold u_lay at hlay
    rw [if_pos hfin] at hlay
    have hcf : m.cls = cf := by
      obtain ⟨_, _, c', _, _, _, -, -, hf', -, -, -, hown2, -⟩ := Cond.laysFinal_spec hlay
      have e1 : c' = cf := by have := hi.symm.trans hf'; simp at this; exact this.1.symm
      rw [hdecl] at hown2
      rw [← e1]; exact Option.some.inj (hown.symm.trans hown2)
    have h6 := u_fits hfc hkC hkind (Or.inr hlay) hi hd0 hn hfit
    exact W.putFinK hx hb hown (hts _ w) hi hst hcf hname (by rw [q2]; exact h6) q1 q3 (by rw [hsl]; exact k2_hasslot (q4 j hj)) rfl rfl hd fin
  · have hfin' : (TT j).2.2.2 = false := by simpa using hfin
    unfold u_lay at hlay
    rw [if_neg hfin] at hlay
    have h6 := u_store hfc hkC hkind hlay hi hd0 hn hfit
    exact W.putK hx hb (f := f) ⟨hown, hts _ w, ⟨_, _, _, hi⟩, hst⟩ (by rw [q2]; exact h6) q1 q3 (by rw [hsl]; exact k2_hasslot (q4 j hj)) rfl rfl hd fin
theorem k_get {a ci index j : Nat} {C : String} {TT : u_T} {N : Nat} {fs : List Value} {v : Value} (hY : gCk Y G (some a) b cc nL own lv kc ks) (hc : vwCl[ci]? = some (C, TT, N)) (hin : ∀ w ∈ u_ws C TT N, w ∈ gAll) (hj : j < N) (w : Cond.fieldLink own index (TT j).1 (TT j).2.1 (TT j).2.2.1 ∈ gAll) (hv : fs[j]? = some v) (hd : decode cc pc = .ok (.getfield index, 3)) (k : gCW Y G (some a) b (.inr (ci, fs)) E n sl (pc + 3) loc (v :: st)) : gCW Y G (some a) b (.inr (ci, fs)) E n sl pc loc (.ref a :: st) := by
  obtain ⟨p, l, e, R, s, m, args, below, meth, c, Q⟩ := Y
  obtain ⟨hx, hb, hml, hown, hts, hK, hAO, hrm, hh, hsz⟩ := hY
  intro H locs ls h1 h2 h3 h4 h5
  exact va_get (ws := [(a, .inr (ci, fs))]) hx hb hts hin hown hK.1 (gP1 (h2 a rfl)) 0 rfl hc j hj (hts _ w) (fun _ h => h) hv hd (k H locs ls h1 h2 h3 h4 h5)
theorem k_aast {i0 v0 ci kd N : Nat} {x : Int} {C : String} {TT : u_T} {NN : Nat} {vs : List Value} {f : Nat → Option Nat} (hY : gCk Y G h0 b cc nL own lv kc ks) (hi0 : i0 < n) (hE : E i0 = .inl (G.2.2.2 kd, N, .inr (.inr (.inr (.inr f))))) (hv0 : v0 < n) (hEv : E v0 = .inr (ci, vs)) (hc : vwCl[ci]? = some (C, TT, NN)) (hkd : (gtys G)[kd]? = some (G.2.2.2 kd, .object C)) (hxi : 0 ≤ x ∧ x < N) (hNb : N < 2147483648) (hd : decode cc pc = .ok (.aastore, 1)) (k : gCW Y G h0 b T (gup E i0 (.inl (G.2.2.2 kd, N, .inr (.inr (.inr (.inr (fun j => if (j : Int) = x then some (b + v0) else f j))))))) n sl (pc + 1) loc st) : gCW Y G h0 b T E n sl pc loc (.ref (b + v0) :: vi x :: .ref (b + i0) :: st) := by
  obtain ⟨p, l, e, R, s, m, args, below, meth, c, Q⟩ := Y
  obtain ⟨hx, hb, hml, hown, hts, hK, hAO, hrm, hh, hsz⟩ := hY
  intro H locs ls h1 h2 h3 h4 h5
  have hin : vp_in (Int32.ofInt x) N := gI_in hxi.1 hxi.2 hNb
  have hlt : (Int32.ofInt x).toNatClampNeg < N := Nat.not_le.mp fun q => hin (Or.inr q)
  have hx0 : ¬ Int32.ofInt x < 0 := fun q => hin (Or.inl q)
  have hnat := gI_nat hxi.1 hxi.2 hNb
  have ha := h3 i0 hi0
  rw [hE] at ha
  have hv := h3 v0 hv0
  rw [hEv] at hv
  obtain ⟨r', hr', cellV, g1, g2, g3, -⟩ := hv
  have hcls := (hK.1.1 ci _ hc).2
  obtain ⟨kA, comp, k1, k2, k3, -⟩ := (hK.1.2 kd _ hkd).2
  have hcomp : comp = G.1 ci := Option.some.inj (k3.symm.trans hcls.1)
  subst hcomp
  obtain ⟨kC, hkC, -⟩ := hcls.2
  refine W.aast hx hb (j := Int32.ofInt x) ha (fun q h => by cases h) (fun h => by cases h) k1 k2 rfl hkC ⟨hx0, by show _ < (arrV _ _ _).slots.size; rw [arrV_size]; exact hlt⟩ g1 (fun q h => by rw [g3] at h; cases h) (by rw [g2]; exact hkC) (by rw [g2]; exact va_assign hcls) rfl rfl hd fun H1 e z oq => ?_
  refine k H1 _ ls (by omega) (fun q hq => (h2 q hq).kept (oq q (fun z => by have z' : q = b + i0 := z; have := hh q hq; omega))) (fun i hi => ?_) (h4.put z oq (Or.inr (by show b ≤ b + i0; omega))) h5
  unfold gup
  by_cases hi' : i = i0
  · rw [if_pos hi', hi']
    show H1[b + i0]? = some (vp_cell _ _)
    rw [e, vp_cell_q, vp_cell_q, arrV_store]
    congr 2
    funext q
    by_cases hq : q = (Int32.ofInt x).toNatClampNeg
    · have hq' : (q : Int) = x := by rw [hq]; exact hnat
      simp only [hq', if_true]
      subst hq
      simp [updV, va_rf]
    · have hq' : ¬ (q : Int) = x := fun h => hq (by omega)
      simp only [hq', if_false]
      simp [updV, hq]
  · rw [if_neg hi']; exact (h3 i hi).kept (oq (b + i) (fun z => hi' (by have z' : b + i = b + i0 := z; omega)))
theorem gNBlind {a b' ci : Nat} {fs0 : List Value} : FrameBlind (va_Pc [.ref a] (fun U => (U.heap.size = b' ∧ a < b' ∧ va_at (G.1, G.2.1) vwCl (a, .inr (ci, fs0)) U.heap) ∧ gK G U ∧ gAO U)) := by
  intro a U g mk q
  obtain ⟨q0, q1, q2, q3⟩ := q
  exact ⟨q0, q1, ⟨va_K.moved (u := U) (U := U.calling g mk a) (Vm.Alike.refl U.vm) q2.1, gN.same (u := U) (U := U.calling g mk a) rfl q2.2⟩, gAO.moved (u := U) (U := U.calling g mk a) (Vm.Alike.refl U.vm) q3⟩
theorem k_back {p : Program} {l : Launch} {e : Env} {R : Room} {s : State} {m : MethodId} {args : Array Value} {below : List Frame} {meth : Method} {c : Code} {Q : State → Prop} {H : Heap} {locs : List Loc} {ls : Array Slot} {rest st0 : List Value} {av : Array Value} {i0 ci kc' ks' : Nat} {fs1 : List Value} {E2 : Nat → va_E} (hh : ∀ a, h0 = some a → a < b) (hsz : s.heap.size = b)
    (hrun : va_Run p l e R s m args below meth c H locs n sl kc' ks' (F0 m pc ls st0) rest (gNQ G (b + i0) (b + n) ci fs1 E2 kc' av) (gcS (some (b + i0)) (b + n))) (hi0 : i0 < n) (h1 : H.size = b + n) (h2 : ∀ a, h0 = some a → va_at (G.1, G.2.1) vwCl (a, T) H) (h3 : ∀ i, i < n → va_at (G.1, G.2.1) vwCl (b + i, E i) H) (h4 : va_S (gcS h0 b) s.heap H locs)
    (kk : ∀ (H1 : Heap) (locs1 : List Loc), H1.size = b + (n + kc') → (∀ a, h0 = some a → va_at (G.1, G.2.1) vwCl (a, T) H1) → (∀ i, i < n + kc' → va_at (G.1, G.2.1) vwCl (b + i, gcat E n i0 (.inr (ci, fs1)) E2 i) H1) → va_S (gcS h0 b) s.heap H1 locs1 → W p l e R s m args below meth c H1 locs1 (n + kc') (sl + ks') Q (F0 m (pc + 3) ls rest)) : W p l e R s m args below meth c H locs n sl Q (F0 m pc ls st0) := by
  intro TT hT Xs
  obtain ⟨v, st₀, t, T', L, g0, X', hL, e1, e2, ⟨⟨hv, hz, hat, hnew⟩, hF1, hF2⟩, stp⟩ := hrun TT hT Xs
  cases hv
  rw [g0] at hF1 hF2
  have keep : ∀ q, q < b + n → q ≠ b + i0 → t.heap[q]? = H[q]? := fun q hq hne => hF2 q (by omega) (fun z => by rcases z with z | z; exact hne (Option.some.inj z).symm; omega)
  obtain ⟨t2, a1, b1⟩ := kk T'.heap (locs ++ L) (by rw [e1]; omega) (fun a ha => by rw [e1]; exact (h2 a ha).kept (keep a (by have := hh a ha; omega) (by have := hh a ha; omega))) (fun i hi => by
    rw [e1]
    unfold gcat
    by_cases c1 : i = i0
    · rw [if_pos c1, c1]; exact hat
    · rw [if_neg c1]
      by_cases c2 : i < n
      · rw [if_pos c2]; exact (h3 i c2).kept (keep (b + i) (by omega) (by omega))
      · rw [if_neg c2]
        have := hnew (i - n) (by omega)
        rw [show b + n + (i - n) = b + i by omega] at this
        exact this)
    ⟨by rw [e1]; have := h4.1; omega, fun q g1 g2 => by
      rw [e1, keep q (by omega) (fun z => g2 (Or.inr (by omega)))]; exact h4.2.1 q g1 g2, fun q hq => by
      rcases List.mem_append.mp hq with h | h
      · exact h4.2.2 q h
      · rcases hL q h with z | z
        · exact Or.inr (by have := Option.some.inj z; omega)
        · exact Or.inr (by omega)⟩ T' rfl X'
  exact ⟨t2, stp t2 a1, b1⟩
theorem k_callN {y : MethodName} {host : String} {bytes : ByteArray} {maxL lv' ci kc' ks' i0 index : Nat} {fs0 fs1 : List Value} {E2 : Nat → va_E} (hY : gCk Y G h0 b cc nL own lv kc ks) (hM : ∀ l : Launch, gNM l G y bytes maxL lv' ci kc' ks' fs0 fs1 E2 (b + i0) (b + n)) (hi0 : i0 < n) (hE : E i0 = .inr (ci, fs0)) (hname : y.name = "<init>") (w1 : Cond.methodLinkNest own index y host ∈ gNest) (w2 : Cond.instanceMethod y ∈ gAll) (w4 : Cond.initialized y.cls ∈ gAll) (w5 : Cond.code y bytes maxL none ∈ gAll) (w6 : y.cls ≠ "java/lang/invoke/MethodHandle" ∧ y.cls ≠ "java/lang/invoke/VarHandle" ∧ (parseMethodDescriptor y.desc).map (fun d => d.parameters.length) = some 0) (w7 : maxL ≤ 21) (hlv : lv' + 1 ≤ lv) (hst : (st.map fun v => v.category).sum ≤ 8) (hcells : n + kc' ≤ kc) (hslots : sl + ks' ≤ ks) (hd : decode cc pc = .ok (.invokespecial index, 3))
    (k : gCW Y G h0 b T (gcat E n i0 (.inr (ci, fs1)) E2) (n + kc') (sl + ks') (pc + 3) loc st) : gCW Y G h0 b T E n sl pc loc (.ref (b + i0) :: st) := by
  obtain ⟨p, l, e, R, s, m, args, below, meth, c, Q⟩ := Y
  obtain ⟨hx, hb, hml, hown, hts, hK, hAO, hrm, hh, hsz⟩ := hY
  intro H locs ls h1 h2 h3 h4 h5
  have cb := va_cnB (R := R) (s := s) (args := args) (own := own) (host := host) (index := index) (y := y) (bytes := bytes) (maxL := maxL) (ret := none) (ws := Cond.code y bytes maxL none :: gAll) (rm := { frames := lv', cells := kc', slots := ks', locals := 40 * lv' }) (mc := kc') (ms := ks') 0 hts (gGood (fun _ h => h) w5) rfl rfl rfl (hK.2 _ w1) (hts _ w4) w6 ⟨by show lv' + 1 ≤ _; omega, by show _ + 40 * lv' ≤ _; omega⟩
  have hat := h3 i0 hi0
  rw [hE] at hat
  refine k_back hh hsz (va_runIN (As := []) (rest := st) (b := b + i0) ⟨hx, hb, rfl, hown, hts⟩ (hM l) ⟨cb, hname, hts _ w2⟩ ⟨gNBlind, fun U hU hW' => ⟨rfl, ⟨by rw [hU]; exact h1, by omega, by rw [hU]; exact hat⟩, gK.warm hW' hK, hAO.moved hW'.alike⟩⟩ rfl rfl h5.1 rfl (lv_room hst) hd ⟨by omega, by omega⟩) hi0 h1 h2 h3 h4 ?_
  intro H1 locs1 g1 g2 g3 g4
  exact k H1 locs1 ls g1 g2 g3 g4 h5
theorem k_callI {y : MethodName} {bytes : ByteArray} {maxL lv' ci kc' ks' i0 index : Nat} {fs0 fs1 : List Value} {E2 : Nat → va_E} (hY : gCk Y G h0 b cc nL own lv kc ks) (hM : ∀ l : Launch, gNM l G y bytes maxL lv' ci kc' ks' fs0 fs1 E2 (b + i0) (b + n)) (hi0 : i0 < n) (hE : E i0 = .inr (ci, fs0)) (hname : y.name = "<init>") (w1 : Cond.methodLink own index y ∈ gAll) (w2 : Cond.instanceMethod y ∈ gAll) (w4 : Cond.initialized y.cls ∈ gAll) (w5 : Cond.code y bytes maxL none ∈ gAll) (w6 : y.cls ≠ "java/lang/invoke/MethodHandle" ∧ y.cls ≠ "java/lang/invoke/VarHandle" ∧ (parseMethodDescriptor y.desc).map (fun d => d.parameters.length) = some 0) (w7 : maxL ≤ 21) (hlv : lv' + 1 ≤ lv) (hst : (st.map fun v => v.category).sum ≤ 8) (hcells : n + kc' ≤ kc) (hslots : sl + ks' ≤ ks) (hd : decode cc pc = .ok (.invokespecial index, 3))
    (k : gCW Y G h0 b T (gcat E n i0 (.inr (ci, fs1)) E2) (n + kc') (sl + ks') (pc + 3) loc st) : gCW Y G h0 b T E n sl pc loc (.ref (b + i0) :: st) := by
  obtain ⟨p, l, e, R, s, m, args, below, meth, c, Q⟩ := Y
  obtain ⟨hx, hb, hml, hown, hts, hK, hAO, hrm, hh, hsz⟩ := hY
  intro H locs ls h1 h2 h3 h4 h5
  have cb : CallB R s args own index y bytes maxL none (Cond.code y bytes maxL none :: gAll) { frames := lv', cells := kc', slots := ks', locals := 40 * lv' } kc' ks' 0 := callB_of 0 hts (gGood (fun _ h => h) w5) rfl rfl rfl (hts _ w4) (hts _ w1) w6 ⟨by show lv' + 1 ≤ _; omega, by show _ + 40 * lv' ≤ _; omega⟩
  have hat := h3 i0 hi0
  rw [hE] at hat
  refine k_back hh hsz (va_runI (As := []) (rest := st) (b := b + i0) ⟨hx, hb, rfl, hown, hts⟩ (hM l) ⟨cb, hname, hts _ w2⟩ ⟨gNBlind, fun U hU hW' => ⟨rfl, ⟨by rw [hU]; exact h1, by omega, by rw [hU]; exact hat⟩, gK.warm hW' hK, hAO.moved hW'.alike⟩⟩ rfl rfl h5.1 rfl (lv_room hst) hd ⟨by omega, by omega⟩) hi0 h1 h2 h3 h4 ?_
  intro H1 locs1 g1 g2 g3 g4
  exact k H1 locs1 ls g1 g2 g3 g4 h5
theorem k_ret {a ci : Nat} {fs1 : List Value} {E1 : Nat → va_E} (hY : gCk Y G (some a) b cc nL own lv kc ks) (hI : gCi Y) (hQ : gCe Y G a b ci fs1 E1 kc ks) (hE : ∀ i, i < kc → E i = E1 i) (hd : decode cc pc = .ok (.return_, 1)) : gCW Y G (some a) b (.inr (ci, fs1)) E kc ks pc loc [] := by
  obtain ⟨p, l, e, R, s, m, args, below, meth, c, Q⟩ := Y
  obtain ⟨hx, hb, hml, hown, hts, hK, hAO, hrm, hh, hsz⟩ := hY
  obtain ⟨hr, hlk, hname⟩ := hI
  intro H locs ls h1 h2 h3 h4 h5
  have hQ' : Q = _ := hQ
  subst hQ'
  exact W.vret hx hb hr (fun t ht _ => ⟨⟨rfl, by rw [ht]; exact h1, by rw [ht]; exact h2 a rfl, fun i hi => by rw [ht, ← hE i hi]; exact h3 i hi⟩, h4.F ht⟩) h4.2.2 hd (hlocks := hlk)
theorem k_to {T' : va_E} {n' sl' : Nat} (hT : T = T') (hn : n = n') (hs : sl = sl') (k : gCW Y G h0 b T' E n' sl' pc loc st) : gCW Y G h0 b T E n sl pc loc st := by
  subst hT
  subst hn
  subst hs
  exact k
theorem k_newaE {x : Int} {N n' sl' : Nat} (hY : gCk Y G h0 b cc nL own lv kc ks) (w : Cond.arrayClass .int ∈ gAll) (hx0 : ¬ Int32.ofInt x < 0) (hN : (Int32.ofInt x).toNatClampNeg = N) (hb4 : N * componentBytes .int ≤ 536870912) (hn : n + 1 = n') (hs : sl + N = sl') (h1' : n' ≤ kc) (h2' : sl' ≤ ks) (hE : E n = .inl (G.2.2.2 0, N, .inl (fun _ => 0))) (hd : decode cc pc = .ok (.newarray .int, 2)) (k : gCW Y G h0 b T E n' sl' (pc + 2) loc (.ref (b + n) :: st)) : gCW Y G h0 b T E n sl pc loc (vi x :: st) := by
  subst hn
  subst hs
  refine k_newa hY w hx0 hN hb4 h1' h2' hd (k_eq (fun i hi => ?_) k)
  unfold gup
  by_cases h : i = n
  · rw [if_pos h, h, hE]
  · rw [if_neg h]
theorem k_newzE {x : Int} {N n' sl' : Nat} (hY : gCk Y G h0 b cc nL own lv kc ks) (w : Cond.arrayClass .boolean ∈ gAll) (hx0 : ¬ Int32.ofInt x < 0) (hN : (Int32.ofInt x).toNatClampNeg = N) (hb4 : N * componentBytes .boolean ≤ 536870912) (hn : n + 1 = n') (hs : sl + N = sl') (h1' : n' ≤ kc) (h2' : sl' ≤ ks) (hE : E n = .inl (G.2.2.2 1, N, .inl (fun _ => 0))) (hd : decode cc pc = .ok (.newarray .boolean, 2)) (k : gCW Y G h0 b T E n' sl' (pc + 2) loc (.ref (b + n) :: st)) : gCW Y G h0 b T E n sl pc loc (vi x :: st) := by
  subst hn
  subst hs
  refine k_newz hY w hx0 hN hb4 h1' h2' hd (k_eq (fun i hi => ?_) k)
  unfold gup
  by_cases h : i = n
  · rw [if_pos h, h, hE]
  · rw [if_neg h]
theorem k_mnaE {x y : Int} {N M index n' sl' : Nat} (hY : gCk Y G h0 b cc nL own lv kc ks) (w : Cond.classLink own index ("[" ++ (FieldType.array .int).toString) ∈ gAll) (w2 : Cond.arrayClass .int ∈ gAll) (hx0 : ¬ Int32.ofInt x < 0) (hy0 : ¬ Int32.ofInt y < 0) (hN : (Int32.ofInt x).toNatClampNeg = N) (hM : (Int32.ofInt y).toNatClampNeg = M) (hb1 : N * 4 ≤ 536870912) (hb2 : M * componentBytes .int ≤ 536870912) (hb3 : M ≤ 536870912) (hn : n + 1 + N = n') (hs : sl + N + N * M = sl') (h1' : n' ≤ kc) (h2' : sl' ≤ ks) (hE : E n = .inl (G.2.2.2 4, N, .inr (.inr (.inr (.inr (fun i => if i < N then some (b + n + 1 + i) else none)))))) (hE2 : ∀ i, i < N → E (n + 1 + i) = .inl (G.2.2.2 0, M, .inl (fun _ => 0))) (hd : decode cc pc = .ok (.multianewarray index 2, 4)) (k : gCW Y G h0 b T E n' sl' (pc + 4) loc (.ref (b + n) :: st)) : gCW Y G h0 b T E n sl pc loc (vi y :: vi x :: st) := by
  subst hn
  subst hs
  refine k_mna hY w w2 hx0 hy0 hN hM hb1 hb2 hb3 (by omega) (by omega) hd (k_eq (fun i hi => ?_) k)
  unfold gcat
  by_cases h : i = n
  · rw [if_pos h, h, hE]
  · rw [if_neg h]
    by_cases h2 : i < n + 1
    · rw [if_pos h2]
      unfold gup
      rw [if_neg h]
    · rw [if_neg h2, show i = n + 1 + (i - (n + 1)) by omega, hE2 _ (by omega)]
theorem k_putE {a ci index j : Nat} {C : String} {TT : u_T} {N : Nat} {fs fs' : List Value} {v : Value} {t0 : FieldType} (hY : gCk Y G (some a) b cc nL own lv kc ks) (hI : gCi Y) (hc : vwCl[ci]? = some (C, TT, N)) (hin : ∀ w ∈ u_ws C TT N, w ∈ gAll) (ty : Nat → FieldType) (hty : ∀ k, k < N → parseFieldDescriptor (TT k).2.2.1 = some (ty k)) (hnm : ∀ a, a < N → ∀ b, b < N → a ≠ b → (TT a).2.1 ≠ (TT b).2.1) (hj : j < N) (w : Cond.fieldLink own index (TT j).1 (TT j).2.1 (TT j).2.2.1 ∈ gAll) (hdecl : (TT j).1 = own) (hd0 : parseFieldDescriptor (TT j).2.2.1 = some t0) (hn : narrow t0 v = v) (hfit : fits t0 v = true) (hlen : j < fs.length) (hfs : fs.set j v = fs') (hd : decode cc pc = .ok (.putfield index, 3)) (k : gCW Y G (some a) b (.inr (ci, fs')) E n sl (pc + 3) loc st) : gCW Y G (some a) b (.inr (ci, fs)) E n sl pc loc (v :: .ref a :: st) := by
  subst hfs
  exact k_put hY hI hc hin ty hty hnm hj w hdecl hd0 hn hfit hlen hd k
end GCROWS

