/-! The X-layer: a world is a number of cells n, their addresses ad, their contents w (functions of the place); locals are a function; numbers are zI z with z : Int. -/
def zI (z : Int) : Int32 := Int32.ofInt z
theorem zI_toInt {z : Int} (h : -2147483648 ≤ z ∧ z < 2147483648) : (zI z).toInt = z := Int32.toInt_ofInt_of_le (by simpa using h.1) (by simpa using h.2)
theorem zI_of (x : Int32) : zI x.toInt = x := Int32.ofInt_toInt x
theorem zI_rng (x : Int32) : -2147483648 ≤ x.toInt ∧ x.toInt < 2147483648 := ⟨by simpa using x.le_toInt, by simpa using x.toInt_lt⟩
theorem zI_add (x y : Int) : zI x + zI y = zI (x + y) := (Int32.ofInt_add x y).symm
theorem zI_sub (x y : Int) : zI x - zI y = zI (x - y) := (Int32.ofInt_sub x y).symm
theorem zI_mul (x y : Int) : zI x * zI y = zI (x * y) := (Int32.ofInt_mul x y).symm
theorem zI_le {x y : Int} (hx : -2147483648 ≤ x ∧ x < 2147483648) (hy : -2147483648 ≤ y ∧ y < 2147483648) : zI x ≤ zI y ↔ x ≤ y := by
  rw [Int32.le_iff_toInt_le, zI_toInt hx, zI_toInt hy]
theorem zI_lt {x y : Int} (hx : -2147483648 ≤ x ∧ x < 2147483648) (hy : -2147483648 ≤ y ∧ y < 2147483648) : zI x < zI y ↔ x < y := by
  rw [Int32.lt_iff_toInt_lt, zI_toInt hx, zI_toInt hy]
theorem zI_inj {x y : Int} (hx : -2147483648 ≤ x ∧ x < 2147483648) (hy : -2147483648 ≤ y ∧ y < 2147483648) : zI x = zI y ↔ x = y :=
  ⟨fun h => by have := congrArg Int32.toInt h; rwa [zI_toInt hx, zI_toInt hy] at this, fun h => by rw [h]⟩
theorem zI_0 : zI 0 = 0 := rfl
theorem zI_nat (k : Nat) : Int32.ofNat k = zI (k : Int) := Int32.ofInt_eq_ofNat.symm
theorem zI_nI (k : Nat) : nI k = zI (k : Int) := zI_nat k
theorem zI_clamp {z : Int} (h : 0 ≤ z ∧ z < 2147483648) : (zI z).toNatClampNeg = z.toNat := Int32.toNatClampNeg_ofInt_of_le (by omega) (by omega)
theorem zI_in {z : Int} {N : Nat} (h : 0 ≤ z ∧ z < N) (hN : N < 2147483648) : vp_in (zI z) N := by
  rintro (q | q)
  · rw [show (0 : Int32) = zI 0 from rfl, zI_lt (by omega) (by omega)] at q
    omega
  · rw [zI_clamp (by omega)] at q
    omega
theorem zI_rem {x y : Int} (hx : -2147483648 < x ∧ x < 2147483648) (hy : 0 < y ∧ y < 2147483648) : zI x - zI x / zI y * zI y = zI (x.tmod y) := by
  apply Int32.toInt_inj.mp
  rw [rem_toInt, zI_toInt (by omega), zI_toInt (by omega), zI_toInt]
  have h1 := Int.lt_tmod_of_pos x hy.1
  have h2 := Int.tmod_lt_of_pos x hy.1
  omega
/-! worlds -/
def xws (n : Nat) (ad : Nat → Nat) (w : Nat → va_E) : va_W := (List.range n).map fun k => (ad k, w k)
theorem xws_at {n k : Nat} {ad : Nat → Nat} {w : Nat → va_E} {e : va_E} (hk : k < n) (hw : w k = e) : (xws n ad w)[k]? = some (ad k, e) := by
  simp [xws, hk, hw]
theorem xws_set {n k : Nat} {ad : Nat → Nat} {w : Nat → va_E} {e : va_E} : (xws n ad w).set k (ad k, e) = xws n ad (va_up w k e) := by
  apply List.ext_getElem?
  intro j
  by_cases hj : j < n
  · by_cases h : k = j
    · subst h
      simp [xws, va_up, hj]
    · rw [List.getElem?_set_ne h]
      simp [xws, va_up, hj, Ne.symm h]
  · rw [List.getElem?_eq_none (by simp [xws]; omega), List.getElem?_eq_none (by simp [xws]; omega)]
theorem xws_push {n : Nat} {ad : Nat → Nat} {w : Nat → va_E} {q : Nat} {e : va_E} : xws n ad w ++ [(q, e)] = xws (n + 1) (va_up ad n q) (va_up w n e) := by
  unfold xws
  rw [List.range_succ, List.map_append]
  congr 1
  · apply List.map_congr_left
    intro k hk
    have : k ≠ n := by have := List.mem_range.mp hk; omega
    simp [va_up, this]
  · simp [va_up]
/-! locals -/
def xlv (ls : Array Slot) (nL : Nat) (lv : Nat → Option Value) : Prop := ls.size = nL ∧ lv_wf ls ∧ ∀ (i : Nat) (v : Value), lv i = some v → v.category = 1 ∧ ls[i]? = some (.val v)
def xll (nL : Nat) (lv : Nat → Option Value) : List (Nat × Value) := (List.range nL).filterMap fun i => (lv i).map fun v => (i, v)
theorem xlv_has {ls : Array Slot} {nL : Nat} {lv : Nat → Option Value} (h : xlv ls nL lv) : lv_has ls nL (xll nL lv) := by
  refine ⟨h.1, h.2.1, fun q hq => ?_⟩
  obtain ⟨i, -, hi⟩ := List.mem_filterMap.mp hq
  cases hv : lv i with
  | none => rw [hv] at hi; cases hi
  | some v => rw [hv] at hi; cases hi; exact (h.2.2 i v hv).2
theorem xlv_put {ls ls' : Array Slot} {nL i : Nat} {lv : Nat → Option Value} {v : Value} (h : xlv ls nL lv) (hv : v.category = 1)
    (h' : lv_has ls' nL ((i, v) :: (xll nL lv).filter (fun q => !(q.1 == i) && !(q.1 + 1 == i && q.2.category == 2)))) : xlv ls' nL (va_up lv i (some v)) := by
  refine ⟨h'.1, h'.2.1, fun j u hu => ?_⟩
  by_cases hj : j = i
  · subst hj
    simp [va_up] at hu
    subst hu
    exact ⟨hv, h'.2.2 (j, v) List.mem_cons_self⟩
  · simp [va_up, hj] at hu
    obtain ⟨h1, h2⟩ := h.2.2 j u hu
    have hjl : j < nL := by have := lv_lt h2; rw [h.1] at this; exact this
    refine ⟨h1, h'.2.2 (j, u) (List.mem_cons_of_mem _ (List.mem_filter.mpr ⟨List.mem_filterMap.mpr ⟨j, List.mem_range.mpr hjl, by rw [hu]; rfl⟩, ?_⟩))⟩
    simp [hj, h1]
theorem xlv_args {ls : Array Slot} {nL : Nat} {av : List Value} (hc : ∀ v ∈ av, v.category = 1) (h : lv_has ls nL (lv_args 0 av)) : xlv ls nL (fun i => av[i]?) := by
  have key : ∀ (vs : List Value) (k j : Nat) (u : Value), (∀ v ∈ vs, v.category = 1) → vs[j]? = some u → (k + j, u) ∈ lv_args k vs := by
    intro vs
    induction vs with
    | nil => intro k j u _ hu; simp at hu
    | cons v vs ih =>
      intro k j u hcs hu
      have hv1 : v.category = 1 := hcs v List.mem_cons_self
      cases j with
      | zero => simp at hu; subst hu; simp [lv_args]
      | succ j =>
        simp at hu
        have := ih (k + 1) j u (fun x hx => hcs x (List.mem_cons_of_mem _ hx)) hu
        simp only [lv_args, hv1]
        refine List.mem_cons_of_mem _ ?_
        rw [if_neg (by decide), show k + (j + 1) = k + 1 + j by omega]
        exact this
  refine ⟨h.1, h.2.1, fun i v hv => ?_⟩
  have hm := key av 0 i v hc hv
  rw [Nat.zero_add] at hm
  exact ⟨hc v (List.mem_of_getElem? hv), h.2.2 (i, v) hm⟩

/-! the judgement -/
abbrev xG := Program × Launch × Env × Room × State × MethodId × Array Value × List Frame × Method × Code × (State → Prop) × Nat × va_G × Nat
def XW (G : xG) (n : Nat) (ad : Nat → Nat) (w : Nat → va_E) (a b pc : Nat) (lv : Nat → Option Value) (st : List Value) : Prop := match G with
  | (p, l, e, R, s, m, args, below, meth, c, Q, nL, D, base) => ∀ (H : Heap) (locs : List Loc) (ls : Array Slot), va_P D vwCl (xws n ad w) H → va_D (xA base) (xws n ad w) → va_S (xA base) s.heap H locs → xlv ls nL lv → W p l e R s m args below meth c H locs a b Q (F0 m pc ls st)
/-- what is known of a walk: its code, its tables' words, its room -/
def XC (G : xG) (L : Launch) (D9 : va_G) (cA : Nat → ClassId) (base9 : Nat) (cc : ByteArray) (nL9 : Nat) (own : String) (R9 : Room) : Prop := match G with
  | (p, l, _, R, s, m, args, _, meth, c, _, nL, D, base) => l = L ∧ D = D9 ∧ base = base9 ∧ nL = nL9 ∧ R = R9 ∧ p.tables.exec = Jvm.exec ∧ c.code = cc ∧ c.maxLocals = nL ∧ s.vm.findClass own = some m.cls ∧ (∀ w ∈ xTs, w.before args s = true) ∧ va_K D vwCl (xtys cA) s ∧ meth.locks = false ∧ base ≤ s.heap.size ∧ XGl base s
section XL
variable {G : xG} {L : Launch} {D : va_G} {cA : Nat → ClassId} {base : Nat} {cc : ByteArray} {nL : Nat} {own : String} {R : Room}
variable {n : Nat} {ad : Nat → Nat} {w : Nat → va_E} {a b pc : Nat} {lv : Nat → Option Value} {st : List Value}
/-- an instruction that touches the frame alone -/
theorem xr_lift (C : XC G L D cA base cc nL own R) {pc' : Nat} {lv' : Nat → Option Value} {st' : List Value}
    (h : ∀ (p : Program) (l : Launch) (e : Env) (R : Room) (s : State) (m : MethodId) (args : Array Value) (below : List Frame) (meth : Method) (c : Code) (Q : State → Prop) (H : Heap) (locs : List Loc) (ls : Array Slot), p.tables.exec = Jvm.exec → c.code = cc → xlv ls nL lv →
      (∀ ls' : Array Slot, xlv ls' nL lv' → W p l e R s m args below meth c H locs a b Q (F0 m pc' ls' st')) → W p l e R s m args below meth c H locs a b Q (F0 m pc ls st))
    (K : XW G n ad w a b pc' lv' st') : XW G n ad w a b pc lv st := by
  obtain ⟨p, l, e, R1, s, m, args, below, meth, c, Q, nL1, D1, base1⟩ := G
  obtain ⟨rfl, rfl, rfl, rfl, rfl, hx, hb, -⟩ := C
  intro H locs ls hP hD hS hl
  exact h p l e R1 s m args below meth c Q H locs ls hx hb hl (fun ls' hl' => K H locs ls' hP hD hS hl')
/-- .. that branches -/
theorem xr_lift2 (C : XC G L D cA base cc nL own R) {ct cf : Prop} {pt pf : Nat} {st' : List Value}
    (h : ∀ (p : Program) (l : Launch) (e : Env) (R : Room) (s : State) (m : MethodId) (args : Array Value) (below : List Frame) (meth : Method) (c : Code) (Q : State → Prop) (H : Heap) (locs : List Loc) (ls : Array Slot), p.tables.exec = Jvm.exec → c.code = cc →
      (ct → W p l e R s m args below meth c H locs a b Q (F0 m pt ls st')) → (cf → W p l e R s m args below meth c H locs a b Q (F0 m pf ls st')) → W p l e R s m args below meth c H locs a b Q (F0 m pc ls st))
    (Kt : ct → XW G n ad w a b pt lv st') (Kf : cf → XW G n ad w a b pf lv st') : XW G n ad w a b pc lv st := by
  obtain ⟨p, l, e, R1, s, m, args, below, meth, c, Q, nL1, D1, base1⟩ := G
  obtain ⟨rfl, rfl, rfl, rfl, rfl, hx, hb, -⟩ := C
  intro H locs ls hP hD hS hl
  exact h p l e R1 s m args below meth c Q H locs ls hx hb (fun c1 => Kt c1 H locs ls hP hD hS hl) (fun c1 => Kf c1 H locs ls hP hD hS hl)
theorem xr_widen {a2 b2 : Nat} (h1 : a ≤ a2) (h2 : b ≤ b2) (K : XW G n ad w a2 b2 pc lv st) : XW G n ad w a b pc lv st := by
  obtain ⟨p, l, e, R1, s, m, args, below, meth, c, Q, nL1, D1, base1⟩ := G
  intro H locs ls hP hD hS hl
  exact W.widen h1 h2 (K H locs ls hP hD hS hl)

theorem xr_iconst (C : XC G L D cA base cc nL own R) {z : Int} (d : decode cc pc = .ok (.iconst z, 1)) (K : XW G n ad w a b (pc + 1) lv (.int (zI z) :: st)) : XW G n ad w a b pc lv st :=
  xr_lift C (fun _ _ _ _ _ _ _ _ _ _ _ _ _ ls hx hb hl k => lv_iconst hx hb d rfl (k ls hl)) K
theorem xr_bipush (C : XC G L D cA base cc nL own R) {z : Int} (d : decode cc pc = .ok (.bipush z, 2)) (hv : (Int8.ofInt z).toInt32 = zI z) (K : XW G n ad w a b (pc + 2) lv (.int (zI z) :: st)) : XW G n ad w a b pc lv st :=
  xr_lift C (fun _ _ _ _ _ _ _ _ _ _ _ _ _ ls hx hb hl k => lv_bipush hx hb d hv (k ls hl)) K
theorem xr_sipush (C : XC G L D cA base cc nL own R) {z : Int} (d : decode cc pc = .ok (.sipush z, 3)) (hv : (Int16.ofInt z).toInt32 = zI z) (K : XW G n ad w a b (pc + 3) lv (.int (zI z) :: st)) : XW G n ad w a b pc lv st :=
  xr_lift C (fun _ _ _ _ _ _ _ _ _ _ _ _ _ ls hx hb hl k => lv_sipush hx hb d hv (k ls hl)) K
theorem xr_lconst (C : XC G L D cA base cc nL own R) {z : Fin 2} (d : decode cc pc = .ok (.lconst z, 1)) (K : XW G n ad w a b (pc + 1) lv (.long (Int64.ofNat (z : Nat)) :: st)) : XW G n ad w a b pc lv st :=
  xr_lift C (fun _ _ _ _ _ _ _ _ _ _ _ _ _ ls hx hb hl k => lv_lconst hx hb d rfl (k ls hl)) K
theorem xr_iload_n (C : XC G L D cA base cc nL own R) (i : Nat) {k9 : Fin 4} {x : Int32} (d : decode cc pc = .ok (.iload_n k9, 1)) (hi : (k9 : Nat) = i) (hv : lv i = some (.int x)) (K : XW G n ad w a b (pc + 1) lv (.int x :: st)) : XW G n ad w a b pc lv st :=
  xr_lift C (fun _ _ _ _ _ _ _ _ _ _ _ _ _ ls hx hb hl k => lv_iload_n hx hb d hi (hl.2.2 _ _ hv).2 (k ls hl)) K
theorem xr_iload (C : XC G L D cA base cc nL own R) {i : Nat} {x : Int32} (d : decode cc pc = .ok (.iload i, 2)) (hv : lv i = some (.int x)) (K : XW G n ad w a b (pc + 2) lv (.int x :: st)) : XW G n ad w a b pc lv st :=
  xr_lift C (fun _ _ _ _ _ _ _ _ _ _ _ _ _ ls hx hb hl k => lv_iload hx hb d (hl.2.2 _ _ hv).2 (k ls hl)) K
theorem xr_aload_n (C : XC G L D cA base cc nL own R) (i : Nat) {k9 : Fin 4} {x : Nat} (d : decode cc pc = .ok (.aload_n k9, 1)) (hi : (k9 : Nat) = i) (hv : lv i = some (.ref x)) (K : XW G n ad w a b (pc + 1) lv (.ref x :: st)) : XW G n ad w a b pc lv st :=
  xr_lift C (fun _ _ _ _ _ _ _ _ _ _ _ _ _ ls hx hb hl k => lv_aload_n hx hb d hi (hl.2.2 _ _ hv).2 (k ls hl)) K
theorem xr_aload (C : XC G L D cA base cc nL own R) {i : Nat} {x : Nat} (d : decode cc pc = .ok (.aload i, 2)) (hv : lv i = some (.ref x)) (K : XW G n ad w a b (pc + 2) lv (.ref x :: st)) : XW G n ad w a b pc lv st :=
  xr_lift C (fun _ _ _ _ _ _ _ _ _ _ _ _ _ ls hx hb hl k => lv_aload hx hb d (hl.2.2 _ _ hv).2 (k ls hl)) K
theorem xr_istore_n (C : XC G L D cA base cc nL own R) (i : Nat) {k9 : Fin 4} {x : Int32} (d : decode cc pc = .ok (.istore_n k9, 1)) (hi : (k9 : Nat) = i) (hn : i < nL) (K : XW G n ad w a b (pc + 1) (va_up lv i (some (.int x))) st) : XW G n ad w a b pc lv (.int x :: st) :=
  xr_lift C (fun _ _ _ _ _ _ _ _ _ _ _ _ _ ls hx hb hl k => lv_istore_n hx hb d hi (xlv_has hl) hn rfl (fun ls9 h9 => k ls9 (xlv_put hl rfl h9))) K
theorem xr_istore (C : XC G L D cA base cc nL own R) {i : Nat} {x : Int32} (d : decode cc pc = .ok (.istore i, 2)) (hn : i < nL) (K : XW G n ad w a b (pc + 2) (va_up lv i (some (.int x))) st) : XW G n ad w a b pc lv (.int x :: st) :=
  xr_lift C (fun _ _ _ _ _ _ _ _ _ _ _ _ _ ls hx hb hl k => lv_istore hx hb d (xlv_has hl) hn rfl (fun ls9 h9 => k ls9 (xlv_put hl rfl h9))) K
theorem xr_astore_n (C : XC G L D cA base cc nL own R) (i : Nat) {k9 : Fin 4} {x : Nat} (d : decode cc pc = .ok (.astore_n k9, 1)) (hi : (k9 : Nat) = i) (hn : i < nL) (K : XW G n ad w a b (pc + 1) (va_up lv i (some (.ref x))) st) : XW G n ad w a b pc lv (.ref x :: st) :=
  xr_lift C (fun _ _ _ _ _ _ _ _ _ _ _ _ _ ls hx hb hl k => lv_astore_n hx hb d hi (xlv_has hl) hn rfl (fun ls9 h9 => k ls9 (xlv_put hl rfl h9))) K
theorem xr_astore (C : XC G L D cA base cc nL own R) {i : Nat} {x : Nat} (d : decode cc pc = .ok (.astore i, 2)) (hn : i < nL) (K : XW G n ad w a b (pc + 2) (va_up lv i (some (.ref x))) st) : XW G n ad w a b pc lv (.ref x :: st) :=
  xr_lift C (fun _ _ _ _ _ _ _ _ _ _ _ _ _ ls hx hb hl k => lv_astore hx hb d (xlv_has hl) hn rfl (fun ls9 h9 => k ls9 (xlv_put hl rfl h9))) K
theorem xll_at {nL i : Nat} {lv : Nat → Option Value} {v : Value} (hi : i < nL) (hv : lv i = some v) : ∃ k : Nat, (xll nL lv)[k]? = some (i, v) :=
  List.getElem?_of_mem (List.mem_filterMap.mpr ⟨i, List.mem_range.mpr hi, by rw [hv]; rfl⟩)
theorem xr_iinc (C : XC G L D cA base cc nL own R) {i : Nat} {z x : Int} (d : decode cc pc = .ok (.iinc i z, 3)) (hn : i < nL) (hv : lv i = some (.int (zI x))) (K : XW G n ad w a b (pc + 3) (va_up lv i (some (.int (zI (x + z))))) st) : XW G n ad w a b pc lv st :=
  xr_lift C (fun _ _ _ _ _ _ _ _ _ _ _ _ _ ls hx hb hl k => by
    obtain ⟨k9, hk9⟩ := xll_at hn hv
    exact lv_iinc hx hb d (xlv_has hl) hk9 (zI_add x z) hn rfl (fun ls9 h9 => k ls9 (xlv_put hl rfl h9))) K
theorem xr_iadd (C : XC G L D cA base cc nL own R) {x y : Int32} (d : decode cc pc = .ok (.iadd, 1)) (K : XW G n ad w a b (pc + 1) lv (.int (x + y) :: st)) : XW G n ad w a b pc lv (.int y :: .int x :: st) :=
  xr_lift C (fun _ _ _ _ _ _ _ _ _ _ _ _ _ ls hx hb hl k => lv_iadd hx hb d (k ls hl)) K
theorem xr_isub (C : XC G L D cA base cc nL own R) {x y : Int32} (d : decode cc pc = .ok (.isub, 1)) (K : XW G n ad w a b (pc + 1) lv (.int (x - y) :: st)) : XW G n ad w a b pc lv (.int y :: .int x :: st) :=
  xr_lift C (fun _ _ _ _ _ _ _ _ _ _ _ _ _ ls hx hb hl k => lv_isub hx hb d (k ls hl)) K
theorem xr_imul (C : XC G L D cA base cc nL own R) {x y : Int32} (d : decode cc pc = .ok (.imul, 1)) (K : XW G n ad w a b (pc + 1) lv (.int (x * y) :: st)) : XW G n ad w a b pc lv (.int y :: .int x :: st) :=
  xr_lift C (fun _ _ _ _ _ _ _ _ _ _ _ _ _ ls hx hb hl k => lv_imul hx hb d (k ls hl)) K
theorem xr_iand (C : XC G L D cA base cc nL own R) {x y : Int32} (d : decode cc pc = .ok (.iand, 1)) (K : XW G n ad w a b (pc + 1) lv (.int (x &&& y) :: st)) : XW G n ad w a b pc lv (.int y :: .int x :: st) :=
  xr_lift C (fun _ _ _ _ _ _ _ _ _ _ _ _ _ ls hx hb hl k => lv_iand hx hb d (k ls hl)) K
theorem xr_ior (C : XC G L D cA base cc nL own R) {x y : Int32} (d : decode cc pc = .ok (.ior, 1)) (K : XW G n ad w a b (pc + 1) lv (.int (x ||| y) :: st)) : XW G n ad w a b pc lv (.int y :: .int x :: st) :=
  xr_lift C (fun _ _ _ _ _ _ _ _ _ _ _ _ _ ls hx hb hl k => lv_ior hx hb d (k ls hl)) K
theorem xr_ixor (C : XC G L D cA base cc nL own R) {x y : Int32} (d : decode cc pc = .ok (.ixor, 1)) (K : XW G n ad w a b (pc + 1) lv (.int (x ^^^ y) :: st)) : XW G n ad w a b pc lv (.int y :: .int x :: st) :=
  xr_lift C (fun _ _ _ _ _ _ _ _ _ _ _ _ _ ls hx hb hl k => lv_ixor hx hb d (k ls hl)) K
theorem xr_ishl (C : XC G L D cA base cc nL own R) {x y : Int32} (d : decode cc pc = .ok (.ishl, 1)) (K : XW G n ad w a b (pc + 1) lv (.int (x <<< (y &&& 31)) :: st)) : XW G n ad w a b pc lv (.int y :: .int x :: st) :=
  xr_lift C (fun _ _ _ _ _ _ _ _ _ _ _ _ _ ls hx hb hl k => lv_ishl hx hb d (k ls hl)) K
theorem xr_ishr (C : XC G L D cA base cc nL own R) {x y : Int32} (d : decode cc pc = .ok (.ishr, 1)) (K : XW G n ad w a b (pc + 1) lv (.int (x >>> (y &&& 31)) :: st)) : XW G n ad w a b pc lv (.int y :: .int x :: st) :=
  xr_lift C (fun _ _ _ _ _ _ _ _ _ _ _ _ _ ls hx hb hl k => lv_ishr hx hb d (k ls hl)) K
theorem xz_iadd (C : XC G L D cA base cc nL own R) {x y : Int} (d : decode cc pc = .ok (.iadd, 1)) (K : XW G n ad w a b (pc + 1) lv (.int (zI (x + y)) :: st)) : XW G n ad w a b pc lv (.int (zI y) :: .int (zI x) :: st) :=
  xr_iadd C d (by rw [zI_add]; exact K)
theorem xz_isub (C : XC G L D cA base cc nL own R) {x y : Int} (d : decode cc pc = .ok (.isub, 1)) (K : XW G n ad w a b (pc + 1) lv (.int (zI (x - y)) :: st)) : XW G n ad w a b pc lv (.int (zI y) :: .int (zI x) :: st) :=
  xr_isub C d (by rw [zI_sub]; exact K)
theorem xz_imul (C : XC G L D cA base cc nL own R) {x y : Int} (d : decode cc pc = .ok (.imul, 1)) (K : XW G n ad w a b (pc + 1) lv (.int (zI (x * y)) :: st)) : XW G n ad w a b pc lv (.int (zI y) :: .int (zI x) :: st) :=
  xr_imul C d (by rw [zI_mul]; exact K)
theorem xz_irem (C : XC G L D cA base cc nL own R) {x y : Int} (d : decode cc pc = .ok (.irem, 1)) (hx9 : -2147483648 < x ∧ x < 2147483648) (hy9 : 0 < y ∧ y < 2147483648) (K : XW G n ad w a b (pc + 1) lv (.int (zI (x.tmod y)) :: st)) : XW G n ad w a b pc lv (.int (zI y) :: .int (zI x) :: st) :=
  xr_lift C (fun _ _ _ _ _ _ _ _ _ _ _ _ _ ls hx hb hl k => lv_irem hx hb d (fun q => by rw [← zI_0, zI_inj (by omega) (by omega)] at q; omega) (by rw [zI_rem hx9 hy9]; exact k ls hl)) K
theorem xr_i2l (C : XC G L D cA base cc nL own R) {x : Int32} (d : decode cc pc = .ok (.i2l, 1)) (K : XW G n ad w a b (pc + 1) lv (.long x.toInt64 :: st)) : XW G n ad w a b pc lv (.int x :: st) :=
  xr_lift C (fun _ _ _ _ _ _ _ _ _ _ _ _ _ ls hx hb hl k => lv_i2l hx hb d rfl (k ls hl)) K
theorem xr_lcmp (C : XC G L D cA base cc nL own R) {x y : Int64} (d : decode cc pc = .ok (.lcmp, 1)) (K : XW G n ad w a b (pc + 1) lv (.int (lg_cmp x y) :: st)) : XW G n ad w a b pc lv (.long y :: .long x :: st) :=
  xr_lift C (fun _ _ _ _ _ _ _ _ _ _ _ _ _ ls hx hb hl k => W.lcmp hx hb d (k ls hl)) K
theorem xr_dup (C : XC G L D cA base cc nL own R) {v : Value} (hc : v.category = 1) (d : decode cc pc = .ok (.dup, 1)) (K : XW G n ad w a b (pc + 1) lv (v :: v :: st)) : XW G n ad w a b pc lv (v :: st) :=
  xr_lift C (fun _ _ _ _ _ _ _ _ _ _ _ _ _ ls hx hb hl k => lv_dup hx hb d hc (k ls hl)) K
theorem xr_pop (C : XC G L D cA base cc nL own R) {v : Value} (hc : v.category = 1) (d : decode cc pc = .ok (.pop, 1)) (K : XW G n ad w a b (pc + 1) lv (st)) : XW G n ad w a b pc lv (v :: st) :=
  xr_lift C (fun _ _ _ _ _ _ _ _ _ _ _ _ _ ls hx hb hl k => lv_pop hx hb d hc (k ls hl)) K
theorem xr_dup_x1 (C : XC G L D cA base cc nL own R) {v u : Value} (hc : v.category = 1) (hc2 : u.category = 1) (d : decode cc pc = .ok (.dup_x1, 1)) (K : XW G n ad w a b (pc + 1) lv (v :: u :: v :: st)) : XW G n ad w a b pc lv (v :: u :: st) :=
  xr_lift C (fun _ _ _ _ _ _ _ _ _ _ _ _ _ ls hx hb hl k => lv_dup_x1 hx hb d hc hc2 (k ls hl)) K
theorem xr_dup_x2 (C : XC G L D cA base cc nL own R) {v u t : Value} (hc : v.category = 1) (hc2 : u.category = 1) (hc3 : t.category = 1) (d : decode cc pc = .ok (.dup_x2, 1)) (K : XW G n ad w a b (pc + 1) lv (v :: u :: t :: v :: st)) : XW G n ad w a b pc lv (v :: u :: t :: st) :=
  xr_lift C (fun _ _ _ _ _ _ _ _ _ _ _ _ _ ls hx hb hl k => lv_dup_x2 hx hb d hc hc2 hc3 (k ls hl)) K
theorem xr_dup2 (C : XC G L D cA base cc nL own R) {v u : Value} (hc : v.category = 1) (hc2 : u.category = 1) (d : decode cc pc = .ok (.dup2, 1)) (K : XW G n ad w a b (pc + 1) lv (v :: u :: v :: u :: st)) : XW G n ad w a b pc lv (v :: u :: st) :=
  xr_lift C (fun _ _ _ _ _ _ _ _ _ _ _ _ _ ls hx hb hl k => lv_dup2_11 hx hb d hc hc2 (k ls hl)) K
theorem xr_if_eq (C : XC G L D cA base cc nL own R) {x : Int32} {off : Int} {tgt : Nat} (d : decode cc pc = .ok (.ifCond .eq off, 3)) (ht : (pc : Int) + off = (tgt : Int)) (Kt : x = 0 → XW G n ad w a b tgt lv st) (Kf : ¬ x = 0 → XW G n ad w a b (pc + 3) lv st) : XW G n ad w a b pc lv (.int x :: st) :=
  xr_lift2 C (fun _ _ _ _ _ _ _ _ _ _ _ _ _ ls hx hb kt kf => lv_if_eq hx hb d ht kt kf) Kt Kf
theorem xr_icmp_eq (C : XC G L D cA base cc nL own R) {x y : Int32} {off : Int} {tgt : Nat} (d : decode cc pc = .ok (.if_icmp .eq off, 3)) (ht : (pc : Int) + off = (tgt : Int)) (Kt : x = y → XW G n ad w a b tgt lv st) (Kf : ¬ x = y → XW G n ad w a b (pc + 3) lv st) : XW G n ad w a b pc lv (.int y :: .int x :: st) :=
  xr_lift2 C (fun _ _ _ _ _ _ _ _ _ _ _ _ _ ls hx hb kt kf => lv_icmp_eq hx hb d ht kt kf) Kt Kf
theorem xz_if_eq (C : XC G L D cA base cc nL own R) {x : Int} {off : Int} {tgt : Nat} (d : decode cc pc = .ok (.ifCond .eq off, 3)) (ht : (pc : Int) + off = (tgt : Int)) (hx9 : -2147483648 ≤ x ∧ x < 2147483648) (Kt : x = 0 → XW G n ad w a b tgt lv st) (Kf : ¬ x = 0 → XW G n ad w a b (pc + 3) lv st) : XW G n ad w a b pc lv (.int (zI x) :: st) :=
  xr_if_eq C d ht (fun q => Kt ((show _ ↔ _ from zI_inj hx9 (by omega)).mp q)) (fun q => Kf (fun h => q ((show _ ↔ _ from zI_inj hx9 (by omega)).mpr h)))
theorem xz_icmp_eq (C : XC G L D cA base cc nL own R) {x y : Int} {off : Int} {tgt : Nat} (d : decode cc pc = .ok (.if_icmp .eq off, 3)) (ht : (pc : Int) + off = (tgt : Int)) (hx9 : -2147483648 ≤ x ∧ x < 2147483648) (hy9 : -2147483648 ≤ y ∧ y < 2147483648) (Kt : x = y → XW G n ad w a b tgt lv st) (Kf : ¬ x = y → XW G n ad w a b (pc + 3) lv st) : XW G n ad w a b pc lv (.int (zI y) :: .int (zI x) :: st) :=
  xr_icmp_eq C d ht (fun q => Kt ((zI_inj hx9 hy9).mp q)) (fun q => Kf (fun h => q ((zI_inj hx9 hy9).mpr h)))
theorem xr_if_ne (C : XC G L D cA base cc nL own R) {x : Int32} {off : Int} {tgt : Nat} (d : decode cc pc = .ok (.ifCond .ne off, 3)) (ht : (pc : Int) + off = (tgt : Int)) (Kt : ¬ x = 0 → XW G n ad w a b tgt lv st) (Kf : x = 0 → XW G n ad w a b (pc + 3) lv st) : XW G n ad w a b pc lv (.int x :: st) :=
  xr_lift2 C (fun _ _ _ _ _ _ _ _ _ _ _ _ _ ls hx hb kt kf => lv_if_ne hx hb d ht kt kf) Kt Kf
theorem xr_icmp_ne (C : XC G L D cA base cc nL own R) {x y : Int32} {off : Int} {tgt : Nat} (d : decode cc pc = .ok (.if_icmp .ne off, 3)) (ht : (pc : Int) + off = (tgt : Int)) (Kt : ¬ x = y → XW G n ad w a b tgt lv st) (Kf : x = y → XW G n ad w a b (pc + 3) lv st) : XW G n ad w a b pc lv (.int y :: .int x :: st) :=
  xr_lift2 C (fun _ _ _ _ _ _ _ _ _ _ _ _ _ ls hx hb kt kf => lv_icmp_ne hx hb d ht kt kf) Kt Kf
theorem xz_if_ne (C : XC G L D cA base cc nL own R) {x : Int} {off : Int} {tgt : Nat} (d : decode cc pc = .ok (.ifCond .ne off, 3)) (ht : (pc : Int) + off = (tgt : Int)) (hx9 : -2147483648 ≤ x ∧ x < 2147483648) (Kt : ¬ x = 0 → XW G n ad w a b tgt lv st) (Kf : x = 0 → XW G n ad w a b (pc + 3) lv st) : XW G n ad w a b pc lv (.int (zI x) :: st) :=
  xr_if_ne C d ht (fun q => Kt (fun h => q ((show _ ↔ _ from zI_inj hx9 (by omega)).mpr h))) (fun q => Kf ((show _ ↔ _ from zI_inj hx9 (by omega)).mp q))
theorem xz_icmp_ne (C : XC G L D cA base cc nL own R) {x y : Int} {off : Int} {tgt : Nat} (d : decode cc pc = .ok (.if_icmp .ne off, 3)) (ht : (pc : Int) + off = (tgt : Int)) (hx9 : -2147483648 ≤ x ∧ x < 2147483648) (hy9 : -2147483648 ≤ y ∧ y < 2147483648) (Kt : ¬ x = y → XW G n ad w a b tgt lv st) (Kf : x = y → XW G n ad w a b (pc + 3) lv st) : XW G n ad w a b pc lv (.int (zI y) :: .int (zI x) :: st) :=
  xr_icmp_ne C d ht (fun q => Kt (fun h => q ((zI_inj hx9 hy9).mpr h))) (fun q => Kf ((zI_inj hx9 hy9).mp q))
theorem xr_if_lt (C : XC G L D cA base cc nL own R) {x : Int32} {off : Int} {tgt : Nat} (d : decode cc pc = .ok (.ifCond .lt off, 3)) (ht : (pc : Int) + off = (tgt : Int)) (Kt : x < 0 → XW G n ad w a b tgt lv st) (Kf : ¬ x < 0 → XW G n ad w a b (pc + 3) lv st) : XW G n ad w a b pc lv (.int x :: st) :=
  xr_lift2 C (fun _ _ _ _ _ _ _ _ _ _ _ _ _ ls hx hb kt kf => lv_if_lt hx hb d ht kt kf) Kt Kf
theorem xr_icmp_lt (C : XC G L D cA base cc nL own R) {x y : Int32} {off : Int} {tgt : Nat} (d : decode cc pc = .ok (.if_icmp .lt off, 3)) (ht : (pc : Int) + off = (tgt : Int)) (Kt : x < y → XW G n ad w a b tgt lv st) (Kf : ¬ x < y → XW G n ad w a b (pc + 3) lv st) : XW G n ad w a b pc lv (.int y :: .int x :: st) :=
  xr_lift2 C (fun _ _ _ _ _ _ _ _ _ _ _ _ _ ls hx hb kt kf => lv_icmp_lt hx hb d ht kt kf) Kt Kf
theorem xz_if_lt (C : XC G L D cA base cc nL own R) {x : Int} {off : Int} {tgt : Nat} (d : decode cc pc = .ok (.ifCond .lt off, 3)) (ht : (pc : Int) + off = (tgt : Int)) (hx9 : -2147483648 ≤ x ∧ x < 2147483648) (Kt : x < 0 → XW G n ad w a b tgt lv st) (Kf : ¬ x < 0 → XW G n ad w a b (pc + 3) lv st) : XW G n ad w a b pc lv (.int (zI x) :: st) :=
  xr_if_lt C d ht (fun q => Kt ((show _ ↔ _ from zI_lt hx9 (by omega)).mp q)) (fun q => Kf (fun h => q ((show _ ↔ _ from zI_lt hx9 (by omega)).mpr h)))
theorem xz_icmp_lt (C : XC G L D cA base cc nL own R) {x y : Int} {off : Int} {tgt : Nat} (d : decode cc pc = .ok (.if_icmp .lt off, 3)) (ht : (pc : Int) + off = (tgt : Int)) (hx9 : -2147483648 ≤ x ∧ x < 2147483648) (hy9 : -2147483648 ≤ y ∧ y < 2147483648) (Kt : x < y → XW G n ad w a b tgt lv st) (Kf : ¬ x < y → XW G n ad w a b (pc + 3) lv st) : XW G n ad w a b pc lv (.int (zI y) :: .int (zI x) :: st) :=
  xr_icmp_lt C d ht (fun q => Kt ((zI_lt hx9 hy9).mp q)) (fun q => Kf (fun h => q ((zI_lt hx9 hy9).mpr h)))
theorem xr_if_ge (C : XC G L D cA base cc nL own R) {x : Int32} {off : Int} {tgt : Nat} (d : decode cc pc = .ok (.ifCond .ge off, 3)) (ht : (pc : Int) + off = (tgt : Int)) (Kt : 0 ≤ x → XW G n ad w a b tgt lv st) (Kf : ¬ 0 ≤ x → XW G n ad w a b (pc + 3) lv st) : XW G n ad w a b pc lv (.int x :: st) :=
  xr_lift2 C (fun _ _ _ _ _ _ _ _ _ _ _ _ _ ls hx hb kt kf => lv_if_ge hx hb d ht kt kf) Kt Kf
theorem xr_icmp_ge (C : XC G L D cA base cc nL own R) {x y : Int32} {off : Int} {tgt : Nat} (d : decode cc pc = .ok (.if_icmp .ge off, 3)) (ht : (pc : Int) + off = (tgt : Int)) (Kt : y ≤ x → XW G n ad w a b tgt lv st) (Kf : ¬ y ≤ x → XW G n ad w a b (pc + 3) lv st) : XW G n ad w a b pc lv (.int y :: .int x :: st) :=
  xr_lift2 C (fun _ _ _ _ _ _ _ _ _ _ _ _ _ ls hx hb kt kf => lv_icmp_ge hx hb d ht kt kf) Kt Kf
theorem xz_if_ge (C : XC G L D cA base cc nL own R) {x : Int} {off : Int} {tgt : Nat} (d : decode cc pc = .ok (.ifCond .ge off, 3)) (ht : (pc : Int) + off = (tgt : Int)) (hx9 : -2147483648 ≤ x ∧ x < 2147483648) (Kt : 0 ≤ x → XW G n ad w a b tgt lv st) (Kf : ¬ 0 ≤ x → XW G n ad w a b (pc + 3) lv st) : XW G n ad w a b pc lv (.int (zI x) :: st) :=
  xr_if_ge C d ht (fun q => Kt ((show _ ↔ _ from zI_le (by omega) hx9).mp q)) (fun q => Kf (fun h => q ((show _ ↔ _ from zI_le (by omega) hx9).mpr h)))
theorem xz_icmp_ge (C : XC G L D cA base cc nL own R) {x y : Int} {off : Int} {tgt : Nat} (d : decode cc pc = .ok (.if_icmp .ge off, 3)) (ht : (pc : Int) + off = (tgt : Int)) (hx9 : -2147483648 ≤ x ∧ x < 2147483648) (hy9 : -2147483648 ≤ y ∧ y < 2147483648) (Kt : y ≤ x → XW G n ad w a b tgt lv st) (Kf : ¬ y ≤ x → XW G n ad w a b (pc + 3) lv st) : XW G n ad w a b pc lv (.int (zI y) :: .int (zI x) :: st) :=
  xr_icmp_ge C d ht (fun q => Kt ((zI_le hy9 hx9).mp q)) (fun q => Kf (fun h => q ((zI_le hy9 hx9).mpr h)))
theorem xr_if_gt (C : XC G L D cA base cc nL own R) {x : Int32} {off : Int} {tgt : Nat} (d : decode cc pc = .ok (.ifCond .gt off, 3)) (ht : (pc : Int) + off = (tgt : Int)) (Kt : 0 < x → XW G n ad w a b tgt lv st) (Kf : ¬ 0 < x → XW G n ad w a b (pc + 3) lv st) : XW G n ad w a b pc lv (.int x :: st) :=
  xr_lift2 C (fun _ _ _ _ _ _ _ _ _ _ _ _ _ ls hx hb kt kf => lv_if_gt hx hb d ht kt kf) Kt Kf
theorem xr_icmp_gt (C : XC G L D cA base cc nL own R) {x y : Int32} {off : Int} {tgt : Nat} (d : decode cc pc = .ok (.if_icmp .gt off, 3)) (ht : (pc : Int) + off = (tgt : Int)) (Kt : y < x → XW G n ad w a b tgt lv st) (Kf : ¬ y < x → XW G n ad w a b (pc + 3) lv st) : XW G n ad w a b pc lv (.int y :: .int x :: st) :=
  xr_lift2 C (fun _ _ _ _ _ _ _ _ _ _ _ _ _ ls hx hb kt kf => lv_icmp_gt hx hb d ht kt kf) Kt Kf
theorem xz_if_gt (C : XC G L D cA base cc nL own R) {x : Int} {off : Int} {tgt : Nat} (d : decode cc pc = .ok (.ifCond .gt off, 3)) (ht : (pc : Int) + off = (tgt : Int)) (hx9 : -2147483648 ≤ x ∧ x < 2147483648) (Kt : 0 < x → XW G n ad w a b tgt lv st) (Kf : ¬ 0 < x → XW G n ad w a b (pc + 3) lv st) : XW G n ad w a b pc lv (.int (zI x) :: st) :=
  xr_if_gt C d ht (fun q => Kt ((show _ ↔ _ from zI_lt (by omega) hx9).mp q)) (fun q => Kf (fun h => q ((show _ ↔ _ from zI_lt (by omega) hx9).mpr h)))
theorem xz_icmp_gt (C : XC G L D cA base cc nL own R) {x y : Int} {off : Int} {tgt : Nat} (d : decode cc pc = .ok (.if_icmp .gt off, 3)) (ht : (pc : Int) + off = (tgt : Int)) (hx9 : -2147483648 ≤ x ∧ x < 2147483648) (hy9 : -2147483648 ≤ y ∧ y < 2147483648) (Kt : y < x → XW G n ad w a b tgt lv st) (Kf : ¬ y < x → XW G n ad w a b (pc + 3) lv st) : XW G n ad w a b pc lv (.int (zI y) :: .int (zI x) :: st) :=
  xr_icmp_gt C d ht (fun q => Kt ((zI_lt hy9 hx9).mp q)) (fun q => Kf (fun h => q ((zI_lt hy9 hx9).mpr h)))
theorem xr_if_le (C : XC G L D cA base cc nL own R) {x : Int32} {off : Int} {tgt : Nat} (d : decode cc pc = .ok (.ifCond .le off, 3)) (ht : (pc : Int) + off = (tgt : Int)) (Kt : x ≤ 0 → XW G n ad w a b tgt lv st) (Kf : ¬ x ≤ 0 → XW G n ad w a b (pc + 3) lv st) : XW G n ad w a b pc lv (.int x :: st) :=
  xr_lift2 C (fun _ _ _ _ _ _ _ _ _ _ _ _ _ ls hx hb kt kf => lv_if_le hx hb d ht kt kf) Kt Kf
theorem xr_icmp_le (C : XC G L D cA base cc nL own R) {x y : Int32} {off : Int} {tgt : Nat} (d : decode cc pc = .ok (.if_icmp .le off, 3)) (ht : (pc : Int) + off = (tgt : Int)) (Kt : x ≤ y → XW G n ad w a b tgt lv st) (Kf : ¬ x ≤ y → XW G n ad w a b (pc + 3) lv st) : XW G n ad w a b pc lv (.int y :: .int x :: st) :=
  xr_lift2 C (fun _ _ _ _ _ _ _ _ _ _ _ _ _ ls hx hb kt kf => lv_icmp_le hx hb d ht kt kf) Kt Kf
theorem xz_if_le (C : XC G L D cA base cc nL own R) {x : Int} {off : Int} {tgt : Nat} (d : decode cc pc = .ok (.ifCond .le off, 3)) (ht : (pc : Int) + off = (tgt : Int)) (hx9 : -2147483648 ≤ x ∧ x < 2147483648) (Kt : x ≤ 0 → XW G n ad w a b tgt lv st) (Kf : ¬ x ≤ 0 → XW G n ad w a b (pc + 3) lv st) : XW G n ad w a b pc lv (.int (zI x) :: st) :=
  xr_if_le C d ht (fun q => Kt ((show _ ↔ _ from zI_le hx9 (by omega)).mp q)) (fun q => Kf (fun h => q ((show _ ↔ _ from zI_le hx9 (by omega)).mpr h)))
theorem xz_icmp_le (C : XC G L D cA base cc nL own R) {x y : Int} {off : Int} {tgt : Nat} (d : decode cc pc = .ok (.if_icmp .le off, 3)) (ht : (pc : Int) + off = (tgt : Int)) (hx9 : -2147483648 ≤ x ∧ x < 2147483648) (hy9 : -2147483648 ≤ y ∧ y < 2147483648) (Kt : x ≤ y → XW G n ad w a b tgt lv st) (Kf : ¬ x ≤ y → XW G n ad w a b (pc + 3) lv st) : XW G n ad w a b pc lv (.int (zI y) :: .int (zI x) :: st) :=
  xr_icmp_le C d ht (fun q => Kt ((zI_le hx9 hy9).mp q)) (fun q => Kf (fun h => q ((zI_le hx9 hy9).mpr h)))
theorem xr_goto (C : XC G L D cA base cc nL own R) {off : Int} {tgt : Nat} (d : decode cc pc = .ok (.goto off, 3)) (ht : (pc : Int) + off = (tgt : Int)) (K : XW G n ad w a b tgt lv st) : XW G n ad w a b pc lv st :=
  xr_lift C (fun _ _ _ _ _ _ _ _ _ _ _ _ _ ls hx hb hl k => lv_goto hx hb d ht (k ls hl)) K
theorem xr_tableOut (C : XC G L D cA base cc nL own R) {dflt lo hi : Int} {offs : Array Int} {len : Nat} {x : Int32} {tgt : Nat} (d : decode cc pc = .ok (.tableswitch dflt lo hi offs, len)) (h : x.toInt < lo ∨ hi < x.toInt) (ht : (pc : Int) + dflt = (tgt : Int)) (K : XW G n ad w a b tgt lv st) : XW G n ad w a b pc lv (.int x :: st) :=
  xr_lift C (fun _ _ _ _ _ _ _ _ _ _ _ _ _ ls hx hb hl k => lv_tableOut hx hb d h ht (k ls hl)) K
theorem xr_tableIn (C : XC G L D cA base cc nL own R) {dflt lo hi : Int} {offs : Array Int} {len : Nat} {x : Int32} {off : Int} {tgt : Nat} (d : decode cc pc = .ok (.tableswitch dflt lo hi offs, len)) (h1 : ¬ x.toInt < lo) (h2 : ¬ hi < x.toInt) (ho : offs[(x.toInt - lo).toNat]? = some off) (ht : (pc : Int) + off = (tgt : Int)) (K : XW G n ad w a b tgt lv st) : XW G n ad w a b pc lv (.int x :: st) :=
  xr_lift C (fun _ _ _ _ _ _ _ _ _ _ _ _ _ ls hx hb hl k => lv_tableIn hx hb d h1 h2 ho ht (k ls hl)) K
end XL
