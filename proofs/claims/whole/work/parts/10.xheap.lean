/-! the heap: fields, arrays -/
def xIA (c : ClassId) (N : Nat) (f : Nat → Int) : va_E := .inl (c, N, .inl (fun j => zI (f j)))
def xLA (c : ClassId) (N : Nat) (f : Nat → Int64) : va_E := .inl (c, N, .inr (.inl f))
def xOb (ci : Nat) (fs : List Value) : va_E := .inr (ci, fs)
theorem zI_upd (f : Nat → Int) (k : Nat) (z : Int) : upd (fun j => zI (f j)) k (zI z) = fun j => zI (va_up f k z j) := by
  funext j
  unfold upd va_up
  split <;> rfl
/-! truth values -/
def xb (p : Bool) : Int := if p then 1 else 0
theorem xb_01 {p : Bool} : xb p = 0 ∨ xb p = 1 := by cases p <;> simp [xb]
theorem xb_nar {p : Bool} : narrow .boolean (.int (zI (xb p))) = .int (zI (xb p)) := by cases p <;> decide
theorem xb_fit {p : Bool} : fits .boolean (.int (zI (xb p))) = true := by cases p <;> decide
theorem xb_t : xb true = 1 := rfl
theorem xb_f : xb false = 0 := rfl
section XH
variable {G : xG} {L : Launch} {D : va_G} {cA : Nat → ClassId} {base : Nat} {cc : ByteArray} {nL : Nat} {own : String} {R : Room}
variable {n : Nat} {ad : Nat → Nat} {w : Nat → va_E} {a b pc : Nat} {lv : Nat → Option Value} {st : List Value}
theorem xr_get (C : XC G L D cA base cc nL own R) {index ci fi k : Nat} {fs : List Value} {v : Value} (F : xFldR own index ci fi) (hw : w k = xOb ci fs) (hk : k < n) (hv : fs[fi]? = some v) (d : decode cc pc = .ok (.getfield index, 3))
    (K : XW G n ad w a b (pc + 3) lv (v :: st)) : XW G n ad w a b pc lv (.ref (ad k) :: st) := by
  obtain ⟨p, l, e, R1, s, m, args, below, meth, c, Q, nL1, D1, base1⟩ := G
  obtain ⟨rfl, rfl, rfl, rfl, rfl, hx, hb, hml, hown, hts, hK, hlocks, hbase, hgl⟩ := C
  intro H locs ls hP hD hS hl
  obtain ⟨Cn, T, N, f1, f2, f3, f4⟩ := F
  exact va_get hx hb hts f2 hown hK hP k (xws_at hk hw) f1 fi f3 (hts _ f4) (fun _ h9 => h9) hv d (K H locs ls hP hD hS hl)
theorem xr_put (C : XC G L D cA base cc nL own R) {index ci fi k : Nat} {ty : FieldType} {fs : List Value} {v : Value} (F : xFld own index ci fi false ty) (hw : w k = xOb ci fs) (hk : k < n) (hn : narrow ty v = v) (hf : fits ty v = true) (hlt : fi < fs.length) (d : decode cc pc = .ok (.putfield index, 3))
    (K : XW G n ad (va_up w k (xOb ci (fs.set fi v))) a b (pc + 3) lv st) : XW G n ad w a b pc lv (v :: .ref (ad k) :: st) := by
  obtain ⟨p, l, e, R1, s, m, args, below, meth, c, Q, nL1, D1, base1⟩ := G
  obtain ⟨rfl, rfl, rfl, rfl, rfl, hx, hb, hml, hown, hts, hK, hlocks, hbase, hgl⟩ := C
  intro H locs ls hP hD hS hl
  obtain ⟨Cn, T, N, ty0, f1, f2, f3, f4, f5, f6, f7, f8, f9⟩ := F
  refine va_put hx hb hts f2 ty0 f7 f8 hown hK hP hD hS k (xws_at hk hw) f1 fi f3 (hts _ f4) (fun _ h9 => h9) f6 f5 hn hf hlt d (fun H1 locs1 hP1 hD1 hS1 => ?_)
  rw [xws_set] at hP1 hD1
  exact K H1 locs1 ls hP1 hD1 hS1 hl
/-- the walk is a constructor's -/
def XIn (G : xG) : Prop := match G with
  | (_, _, _, _, _, _, _, _, meth, _, _, _, _, _) => meth.name = "<init>"
theorem xr_putF (C : XC G L D cA base cc nL own R) (hin : XIn G) {index ci fi k : Nat} {ty : FieldType} {fs : List Value} {v : Value} (F : xFld own index ci fi true ty) (hw : w k = xOb ci fs) (hk : k < n) (hn : narrow ty v = v) (hf : fits ty v = true) (hlt : fi < fs.length) (d : decode cc pc = .ok (.putfield index, 3))
    (K : XW G n ad (va_up w k (xOb ci (fs.set fi v))) a b (pc + 3) lv st) : XW G n ad w a b pc lv (v :: .ref (ad k) :: st) := by
  obtain ⟨p, l, e, R1, s, m, args, below, meth, c, Q, nL1, D1, base1⟩ := G
  obtain ⟨rfl, rfl, rfl, rfl, rfl, hx, hb, hml, hown, hts, hK, hlocks, hbase, hgl⟩ := C
  intro H locs ls hP hD hS hl
  obtain ⟨Cn, T, N, ty0, f1, f2, f3, f4, f5, f6, f7, f8, f9⟩ := F
  refine va_putF hx hb hts f2 ty0 f7 f8 hown hK hP hD hS k (xws_at hk hw) f1 fi f3 (hts _ f4) (fun _ h9 => h9) f6 hin (f9 rfl) f5 hn hf hlt d (fun H1 locs1 hP1 hD1 hS1 => ?_)
  rw [xws_set] at hP1 hD1
  exact K H1 locs1 ls hP1 hD1 hS1 hl
theorem xz_iald (C : XC G L D cA base cc nL own R) {k N : Nat} {f : Nat → Int} {i : Int} (hw : w k = xIA (cA 0) N f) (hk : k < n) (hi : 0 ≤ i ∧ i < N) (hN : N < 2147483648) (d : decode cc pc = .ok (.iaload, 1))
    (K : XW G n ad w a b (pc + 1) lv (.int (zI (f i.toNat)) :: st)) : XW G n ad w a b pc lv (.int (zI i) :: .ref (ad k) :: st) := by
  obtain ⟨p, l, e, R1, s, m, args, below, meth, c, Q, nL1, D1, base1⟩ := G
  obtain ⟨rfl, rfl, rfl, rfl, rfl, hx, hb, hml, hown, hts, hK, hlocks, hbase, hgl⟩ := C
  intro H locs ls hP hD hS hl
  refine va_iald hx hb hK hP k 0 (xws_at hk hw) rfl (zI_in hi hN) d ?_
  rw [zI_clamp (by omega)]
  exact K H locs ls hP hD hS hl
theorem xz_zald (C : XC G L D cA base cc nL own R) {k N : Nat} {f : Nat → Int} {i : Int} (hw : w k = xIA (cA 1) N f) (hk : k < n) (hi : 0 ≤ i ∧ i < N) (hN : N < 2147483648) (d : decode cc pc = .ok (.baload, 1))
    (K : XW G n ad w a b (pc + 1) lv (.int (zI (f i.toNat)) :: st)) : XW G n ad w a b pc lv (.int (zI i) :: .ref (ad k) :: st) := by
  obtain ⟨p, l, e, R1, s, m, args, below, meth, c, Q, nL1, D1, base1⟩ := G
  obtain ⟨rfl, rfl, rfl, rfl, rfl, hx, hb, hml, hown, hts, hK, hlocks, hbase, hgl⟩ := C
  intro H locs ls hP hD hS hl
  refine va_zald hx hb hK hP k 1 (xws_at hk hw) rfl (zI_in hi hN) d ?_
  rw [zI_clamp (by omega)]
  exact K H locs ls hP hD hS hl
theorem xr_lald (C : XC G L D cA base cc nL own R) {k N : Nat} {f : Nat → Int64} {i : Int} (hw : w k = xLA (cA 2) N f) (hk : k < n) (hi : 0 ≤ i ∧ i < N) (hN : N < 2147483648) (d : decode cc pc = .ok (.laload, 1))
    (K : XW G n ad w a b (pc + 1) lv (.long (f i.toNat) :: st)) : XW G n ad w a b pc lv (.int (zI i) :: .ref (ad k) :: st) := by
  obtain ⟨p, l, e, R1, s, m, args, below, meth, c, Q, nL1, D1, base1⟩ := G
  obtain ⟨rfl, rfl, rfl, rfl, rfl, hx, hb, hml, hown, hts, hK, hlocks, hbase, hgl⟩ := C
  intro H locs ls hP hD hS hl
  refine va_lald hx hb hK hP k 2 (xws_at hk hw) rfl (zI_in hi hN) d ?_
  rw [zI_clamp (by omega)]
  exact K H locs ls hP hD hS hl
theorem xz_iast (C : XC G L D cA base cc nL own R) {k N : Nat} {f : Nat → Int} {i x : Int} (hw : w k = xIA (cA 0) N f) (hk : k < n) (hi : 0 ≤ i ∧ i < N) (hN : N < 2147483648) (d : decode cc pc = .ok (.iastore, 1))
    (K : XW G n ad (va_up w k (xIA (cA 0) N (va_up f i.toNat x))) a b (pc + 1) lv st) : XW G n ad w a b pc lv (.int (zI x) :: .int (zI i) :: .ref (ad k) :: st) := by
  obtain ⟨p, l, e, R1, s, m, args, below, meth, c, Q, nL1, D1, base1⟩ := G
  obtain ⟨rfl, rfl, rfl, rfl, rfl, hx, hb, hml, hown, hts, hK, hlocks, hbase, hgl⟩ := C
  intro H locs ls hP hD hS hl
  refine va_iast hx hb hK hP hD hS k 0 (xws_at hk hw) rfl (zI_in hi hN) d (fun H1 locs1 hP1 hD1 hS1 => ?_)
  rw [xws_set, zI_clamp (by omega), zI_upd] at hP1 hD1
  exact K H1 locs1 ls hP1 hD1 hS1 hl
theorem zI_nar {x : Int} (h : x = 0 ∨ x = 1) : vp_nar .boolean (zI x) = zI x := by
  rcases h with rfl | rfl <;> decide
theorem xz_zast (C : XC G L D cA base cc nL own R) {k N : Nat} {f : Nat → Int} {i x : Int} (hw : w k = xIA (cA 1) N f) (hk : k < n) (hi : 0 ≤ i ∧ i < N) (hN : N < 2147483648) (hx9 : x = 0 ∨ x = 1) (d : decode cc pc = .ok (.bastore, 1))
    (K : XW G n ad (va_up w k (xIA (cA 1) N (va_up f i.toNat x))) a b (pc + 1) lv st) : XW G n ad w a b pc lv (.int (zI x) :: .int (zI i) :: .ref (ad k) :: st) := by
  obtain ⟨p, l, e, R1, s, m, args, below, meth, c, Q, nL1, D1, base1⟩ := G
  obtain ⟨rfl, rfl, rfl, rfl, rfl, hx, hb, hml, hown, hts, hK, hlocks, hbase, hgl⟩ := C
  intro H locs ls hP hD hS hl
  refine va_zast hx hb hK hP hD hS k 1 (xws_at hk hw) rfl (zI_in hi hN) d (fun H1 locs1 hP1 hD1 hS1 => ?_)
  rw [xws_set, zI_clamp (by omega), zI_nar hx9, zI_upd] at hP1 hD1
  exact K H1 locs1 ls hP1 hD1 hS1 hl
theorem xr_last (C : XC G L D cA base cc nL own R) {k N : Nat} {f : Nat → Int64} {i : Int} {x : Int64} (hw : w k = xLA (cA 2) N f) (hk : k < n) (hi : 0 ≤ i ∧ i < N) (hN : N < 2147483648) (d : decode cc pc = .ok (.lastore, 1))
    (K : XW G n ad (va_up w k (xLA (cA 2) N (vp_updL f i.toNat x))) a b (pc + 1) lv st) : XW G n ad w a b pc lv (.long x :: .int (zI i) :: .ref (ad k) :: st) := by
  obtain ⟨p, l, e, R1, s, m, args, below, meth, c, Q, nL1, D1, base1⟩ := G
  obtain ⟨rfl, rfl, rfl, rfl, rfl, hx, hb, hml, hown, hts, hK, hlocks, hbase, hgl⟩ := C
  intro H locs ls hP hD hS hl
  refine va_last hx hb hK hP hD hS k 2 (xws_at hk hw) rfl (zI_in hi hN) d (fun H1 locs1 hP1 hD1 hS1 => ?_)
  rw [xws_set, zI_clamp (by omega)] at hP1 hD1
  exact K H1 locs1 ls hP1 hD1 hS1 hl
theorem xz_alen (C : XC G L D cA base cc nL own R) {k N t0 : Nat} {f : Nat → Int} (ht0 : t0 < 3) (hw : w k = xIA (cA t0) N f) (hk : k < n) (d : decode cc pc = .ok (.arraylength, 1))
    (K : XW G n ad w a b (pc + 1) lv (.int (zI (N : Int)) :: st)) : XW G n ad w a b pc lv (.ref (ad k) :: st) := by
  obtain ⟨p, l, e, R1, s, m, args, below, meth, c, Q, nL1, D1, base1⟩ := G
  obtain ⟨rfl, rfl, rfl, rfl, rfl, hx, hb, hml, hown, hts, hK, hlocks, hbase, hgl⟩ := C
  intro H locs ls hP hD hS hl
  obtain ⟨ty, hty⟩ : ∃ ty, (xtys cA)[t0]? = some (cA t0, ty) := by
    match t0, ht0 with
    | 0, _ => exact ⟨_, rfl⟩
    | 1, _ => exact ⟨_, rfl⟩
    | 2, _ => exact ⟨_, rfl⟩
  exact va_alen hx hb hK hP k t0 (xws_at hk hw) hty (zI_nat N) d (K H locs ls hP hD hS hl)
theorem xb_if_eq (C : XC G L D cA base cc nL own R) {p : Bool} {off : Int} {tgt : Nat} (d : decode cc pc = .ok (.ifCond .eq off, 3)) (ht : (pc : Int) + off = (tgt : Int)) (Kt : p = false → XW G n ad w a b tgt lv st) (Kf : p = true → XW G n ad w a b (pc + 3) lv st) : XW G n ad w a b pc lv (.int (zI (xb p)) :: st) :=
  xz_if_eq C d ht (by cases p <;> decide) (fun h => Kt (by cases p with | false => rfl | true => exact absurd h (by decide))) (fun h => Kf (by cases p with | true => rfl | false => exact absurd rfl h))
theorem xb_if_ne (C : XC G L D cA base cc nL own R) {p : Bool} {off : Int} {tgt : Nat} (d : decode cc pc = .ok (.ifCond .ne off, 3)) (ht : (pc : Int) + off = (tgt : Int)) (Kt : p = true → XW G n ad w a b tgt lv st) (Kf : p = false → XW G n ad w a b (pc + 3) lv st) : XW G n ad w a b pc lv (.int (zI (xb p)) :: st) :=
  xz_if_ne C d ht (by cases p <;> decide) (fun h => Kt (by cases p with | true => rfl | false => exact absurd rfl h)) (fun h => Kf (by cases p with | false => rfl | true => exact absurd h (by decide)))
end XH
/-! contracts -/
def XI (D : va_G) (cA : Nat → ClassId) (base n : Nat) (ad : Nat → Nat) (w : Nat → va_E) (U : State) : Prop := base ≤ U.heap.size ∧ va_K D vwCl (xtys cA) U ∧ va_P D vwCl (xws n ad w) U.heap ∧ va_D (xA base) (xws n ad w) ∧ XGl base U
abbrev xPost := Option Value → Nat → (Nat → Nat) → (Nat → va_E) → Prop
abbrev xPosx := String → Nat → (Nat → Nat) → (Nat → va_E) → Prop
def xQ (D : va_G) (base : Nat) (post : xPost) : Array Value → State → Outcome → State → Prop := fun _ s0 oc t => ∃ (v : Option Value) (n' : Nat) (ad' : Nat → Nat) (w' : Nat → va_E), oc = .returned v ∧ post v n' ad' w' ∧ va_P D vwCl (xws n' ad' w') t.heap ∧ va_D (xA base) (xws n' ad' w') ∧ va_F (xA base) s0 t
def xX (D : va_G) (base : Nat) (xp : xPosx) : String → State → State → Prop := fun E s0 t => ∃ (n' : Nat) (ad' : Nat → Nat) (w' : Nat → va_E), xp E n' ad' w' ∧ va_P D vwCl (xws n' ad' w') t.heap ∧ va_D (xA base) (xws n' ad' w') ∧ va_F (xA base) s0 t
def xwd (y : MethodName) (bytes : ByteArray) (maxL : Nat) (ret : Option FieldType) : List Cond := Cond.code y bytes maxL ret :: xTs
def XM (L : Launch) (D : va_G) (cA : Nat → ClassId) (base : Nat) (y : MethodName) (bytes : ByteArray) (maxL : Nat) (ret : Option FieldType) (rm : Room) (av : List Value) (n : Nat) (ad : Nat → Nat) (w : Nat → va_E) (post : xPost) (xp : xPosx) : Prop :=
  vx_Met L y (xwd y bytes maxL ret) rm (va_Pc av (XI D cA base n ad w)) (xQ D base post) (xX D base xp) rm.cells rm.slots (xA base)
/-- what a walk owes at its end -/
def XE (G : xG) (D9 : va_G) (base9 : Nat) (post : xPost) (xp : xPosx) (mc ms : Nat) (ret : Option FieldType) : Prop := match G with
  | (_, _, _, _, s, _, args, below, meth, c, Q, _, D, base) => Q = vx_MQ below (xQ D9 base9 post) (xX D9 base9 xp) args s mc ms (xA base9) ∧ meth.sig.returnType = ret ∧ (∀ x ∈ c.exceptionTable.toList, False)
/-- an exception of class E is thrown over the frame -/
def XX (G : xG) (n : Nat) (ad : Nat → Nat) (w : Nat → va_E) (a b pc : Nat) (lv : Nat → Option Value) (st : List Value) (E : String) : Prop := match G with
  | (p, l, e, R, s, m, args, below, meth, c, Q, nL, D, base) => ∀ (H : Heap) (locs : List Loc) (ls : Array Slot) (q : Addr) (ce : Cell), va_P D vwCl (xws n ad w) H → va_D (xA base) (xws n ad w) → va_S (xA base) s.heap H locs → xlv ls nL lv → H[q]? = some ce → ce.vm = .none → s.vm.findClass E = some ce.cls → vx_W p l e R s m args below meth c H locs a b Q (F0 m pc ls st) q
section XK
variable {G : xG} {L : Launch} {D : va_G} {cA : Nat → ClassId} {base : Nat} {cc : ByteArray} {nL : Nat} {own : String} {R : Room}
variable {n : Nat} {ad : Nat → Nat} {w : Nat → va_E} {a b pc : Nat} {lv : Nat → Option Value} {st : List Value}
variable {post : xPost} {xp : xPosx} {mc ms : Nat} {ret : Option FieldType}
theorem xr_iret (C : XC G L D cA base cc nL own R) (E : XE G D base post xp mc ms (some .int)) {v : Int32} (hp : post (some (.int v)) n ad w) (h1 : a ≤ mc) (h2 : b ≤ ms) (d : decode cc pc = .ok (.ireturn, 1)) : XW G n ad w a b pc lv [.int v] := by
  obtain ⟨p, l, e, R1, s, m, args, below, meth, c, Q, nL1, D1, base1⟩ := G
  obtain ⟨rfl, rfl, rfl, rfl, rfl, hx, hb, hml, hown, hts, hK, hlocks, hbase, hgl⟩ := C
  intro H locs ls hP hD hS hl
  obtain ⟨rfl, hr, -⟩ := E
  exact W.widen h1 h2 (vx_ret (W.iret hx hb hr (fun t ht hW => ⟨_, n, ad, w, rfl, hp, by rw [ht]; exact hP, hD, hS.F ht⟩) hS.2.2 d hlocks))
theorem xr_vret (C : XC G L D cA base cc nL own R) (E : XE G D base post xp mc ms (none)) (hp : post (none) n ad w) (h1 : a ≤ mc) (h2 : b ≤ ms) (d : decode cc pc = .ok (.return_, 1)) : XW G n ad w a b pc lv [] := by
  obtain ⟨p, l, e, R1, s, m, args, below, meth, c, Q, nL1, D1, base1⟩ := G
  obtain ⟨rfl, rfl, rfl, rfl, rfl, hx, hb, hml, hown, hts, hK, hlocks, hbase, hgl⟩ := C
  intro H locs ls hP hD hS hl
  obtain ⟨rfl, hr, -⟩ := E
  exact W.widen h1 h2 (vx_ret (W.vret hx hb hr (fun t ht hW => ⟨_, n, ad, w, rfl, hp, by rw [ht]; exact hP, hD, hS.F ht⟩) hS.2.2 d hlocks))
theorem xr_zret (C : XC G L D cA base cc nL own R) (E : XE G D base post xp mc ms (some .boolean)) {x : Int} (hz : x = 0 ∨ x = 1) (hp : post (some (.int (zI x))) n ad w) (h1 : a ≤ mc) (h2 : b ≤ ms) (d : decode cc pc = .ok (.ireturn, 1)) : XW G n ad w a b pc lv [.int (zI x)] := by
  obtain ⟨p, l, e, R1, s, m, args, below, meth, c, Q, nL1, D1, base1⟩ := G
  obtain ⟨rfl, rfl, rfl, rfl, rfl, hx, hb, hml, hown, hts, hK, hlocks, hbase, hgl⟩ := C
  intro H locs ls hP hD hS hl
  obtain ⟨rfl, hr, -⟩ := E
  exact W.widen h1 h2 (vx_ret (W.zret hx hb hr (by rcases hz with rfl | rfl <;> decide) (fun t ht hW => ⟨_, n, ad, w, rfl, hp, by rw [ht]; exact hP, hD, hS.F ht⟩) hS.2.2 d hlocks))
theorem xx_out (C : XC G L D cA base cc nL own R) (E : XE G D base post xp mc ms ret) {En : String} (hp : xp En n ad w) (h1 : a ≤ mc) (h2 : b ≤ ms) : XX G n ad w a b pc lv st En := by
  obtain ⟨p, l, e, R1, s, m, args, below, meth, c, Q, nL1, D1, base1⟩ := G
  obtain ⟨rfl, rfl, rfl, rfl, rfl, hx, hb, hml, hown, hts, hK, hlocks, hbase, hgl⟩ := C
  obtain ⟨rfl, hr, ht⟩ := E
  intro H locs ls q ce hP hD hS hl hc hv hcl
  exact vx_widen h1 h2 (vx_out (fun x h => (ht x h).elim) hlocks hc hv hcl (fun t h9 _ => ⟨n, ad, w, hp, by rw [h9]; exact hP, hD, hS.F h9⟩) hS.2.2 (Nat.le_refl _) (Nat.le_refl _))
/-- throw new E("text") -/
theorem xr_throw (C : XC G L D cA base cc nL own R) (E : XE G D base post xp mc ms ret) (hLt : L.stackTraces = false) {cls text : String} {names : List String} {ik is ic : Nat} (ho : own = R_RS) (hcls : Bundle.fit cls = true) (hnames : ∀ q ∈ names, Bundle.fit q = true) (hk : Cond.classLink own ik cls ∈ xTs) (hini : Cond.initialized cls ∈ xTs) (hstr : (is, text) ∈ xStr) (hat : ∀ q ∈ vx_atS own ic cls names, q ∈ xTs ∨ q = Cond.castable cls cls ∨ q ∈ xSup.map (fun q9 => Cond.declares ⟨q9, "<init>", "(Ljava/lang/String;)V"⟩)) (hce : cls ∈ xEs)
    (d0 : decode cc pc = .ok (.new ik, 3)) (d3 : decode cc (pc + 3) = .ok (.dup, 1)) (d4 : decode cc (pc + 4) = .ok (.ldc is, 2)) (d6 : decode cc (pc + 6) = .ok (.invokespecial ic, 3)) (d9 : decode cc (pc + 9) = .ok (.athrow, 1))
    (hR : names.length + 3 < R.frames ∧ (st.map fun v => v.category).sum + (13 * (names.length + 1) + 43) ≤ R.locals) (hcs : a + 1 ≤ R.cells ∧ b + 6 ≤ R.slots) (hp : xp cls n ad w) (h1 : a + 1 ≤ mc) (h2 : b + 6 ≤ ms) : XW G n ad w a b pc lv st := by
  obtain ⟨p, l, e, R1, s, m, args, below, meth, c, Q, nL1, D1, base1⟩ := G
  obtain ⟨rfl, rfl, rfl, rfl, rfl, hx, hb, hml, hown, hts, hK, hlocks, hbase, hgl⟩ := C
  intro H locs ls hP hD hS hl
  obtain ⟨rfl, hr, ht⟩ := E
  subst ho
  obtain ⟨sa, hsa⟩ := hgl.2.2.1 _ hstr
  have hgood : ∀ q ∈ Cond.classLink R_RS ik cls :: Cond.initialized cls :: vx_atS R_RS ic cls names, vx_ot q = true := by
    intro q hq
    have hm : q ∈ xTs ∨ q = Cond.castable cls cls ∨ q ∈ xSup.map (fun q9 => Cond.declares ⟨q9, "<init>", "(Ljava/lang/String;)V"⟩) := by
      rcases List.mem_cons.mp hq with rfl | hq
      · exact Or.inl hk
      · rcases List.mem_cons.mp hq with rfl | hq
        · exact Or.inl hini
        · exact hat q hq
    show (q.onTables || goodWord q) = true
    rcases hm with hm | rfl | hm
    · rw [(List.mem_filter.mp hm).2, Bool.or_true]
    · rfl
    · obtain ⟨z9, -, rfl⟩ := List.mem_map.mp hm
      rfl
  exact vx_throwS hx hb hLt hown hcls hnames (hts _ hk) (hts _ hini) hsa (fun q hq => (hat q hq).elim (hts q) (fun h8 => h8.elim (fun h9 => by rw [h9]; exact va_Nw.use rfl (hgl.2.2.2.2.2.1 cls hce)) (fun h9 => by obtain ⟨z9, h7, rfl⟩ := List.mem_map.mp h9; exact va_Nw.use rfl (hgl.2.2.2.2.2.2 z9 h7)))) hgood hgl.1 hgl.2.1 hS (by rw [hml]; exact hl.1) d0 d3 d4 d6 d9 (fun x h => (ht x h).elim) hR.1 hR.2 hcs.1 hcs.2 hlocks
    (fun t _ hsz hold => ⟨n, ad, w, hp, hP.kept (fun k q hk9 => hold q.1 (hP k q hk9).lt), hD, Nat.le_trans hS.1 hsz, fun q g1 g2 => (hold q (Nat.lt_of_lt_of_le g1 hS.1)).trans (hS.2.1 q g1 g2)⟩) hS.2.2 h1 h2
end XK
section XM
variable {L : Launch} {D : va_G} {cA : Nat → ClassId} {base : Nat} {y : MethodName} {bytes : ByteArray} {maxL : Nat} {ret : Option FieldType} {rm : Room} {av : List Value} {n : Nat} {ad : Nat → Nat} {w : Nat → va_E} {post : xPost} {xp : xPosx}
/-- a contract out of a walk -/
theorem xm_of (hy : plainName y.cls = true) (hav : ∀ v ∈ av, v.category = 1) (hlen : (lg_sl av).length ≤ maxL)
    (body : ∀ G : xG, XC G L D cA base bytes maxL y.cls rm → XE G D base post xp rm.cells rm.slots ret → (y.name = "<init>" → XIn G) → XW G n ad w 0 0 0 (fun i => av[i]?) []) : XM L D cA base y bytes maxL ret rm av n ad w post xp := by
  refine vx_ofW (cc := bytes) (maxL := maxL) (ret := ret) hy rfl ?_
  intro p e s m args below meth c s₁ B hml ht hv
  obtain ⟨rfl, h1, h2, h3, h4, h5⟩ := hv
  have hts := atoms_spec (ws := xwd y bytes maxL ret) B.pre
  have K := body (p, L, e, rm, s, m, av.toArray, below, meth, c, vx_MQ below (xQ D base post) (xX D base xp) av.toArray s rm.cells rm.slots (xA base), maxL, D, base)
    ⟨rfl, rfl, rfl, rfl, rfl, B.exec, B.bytes, hml, findClass_of_methodNamed B.named, fun w hw => hts w (List.mem_cons_of_mem _ hw), h2, B.notSynchronized, h1, h5⟩ ⟨rfl, B.returns, ht⟩ (fun h => (name_of_methodNamed B.named B.method).1.trans h)
  have hl := lv_entry av (n := maxL) hlen
  show W p L e rm s m av.toArray below meth c s.heap [] 0 0 _ (entryFrame m av.toArray maxL)
  rw [lg_entry_eq]
  exact K s.heap [] _ h3 h4 va_S.rf (xlv_args hav hl)
/-- a weaker end -/
theorem xm_mono {post2 : xPost} {xp2 : xPosx} (h : XM L D cA base y bytes maxL ret rm av n ad w post xp) (h1 : ∀ v n' ad' w', post v n' ad' w' → post2 v n' ad' w') (h2 : ∀ E n' ad' w', xp E n' ad' w' → xp2 E n' ad' w') : XM L D cA base y bytes maxL ret rm av n ad w post2 xp2 := by
  intro p e g1 g2 g3 s m args below g4 g5 g6 g7
  obtain ⟨k, o, a1, a2, a3, a4⟩ := h p e g1 g2 g3 s m args below g4 g5 g6 g7
  refine ⟨k, o, a1, a2, a3, ?_⟩
  rcases a4 with ⟨⟨v, n', ad', w', b1, b2, b3⟩, L, hL⟩ | ⟨q, ho, E, ce, L, ⟨n', ad', w', b2, b3⟩, r⟩
  · exact Or.inl ⟨⟨v, n', ad', w', b1, h1 _ _ _ _ b2, b3⟩, L, hL⟩
  · exact Or.inr ⟨q, ho, E, ce, L, ⟨n', ad', w', h2 _ _ _ _ b2, b3⟩, r⟩
/-- one that never throws -/
theorem xm_met (h : XM L D cA base y bytes maxL ret rm av n ad w post (fun _ _ _ _ => False)) : Met L y (xwd y bytes maxL ret) rm (va_Pc av (XI D cA base n ad w)) (xQ D base post) rm.cells rm.slots (xA base) := by
  intro p e g1 g2 g3 s m args below g4 g5 g6 g7
  obtain ⟨k, o, a1, a2, a3, a4⟩ := h p e g1 g2 g3 s m args below g4 g5 g6 g7
  refine ⟨k, o, a1, a2, a3, ?_⟩
  rcases a4 with h8 | ⟨q, ho, E, ce, L, ⟨n', ad', w', b2, b3⟩, r⟩
  · exact h8
  · exact b2.elim
end XM
/-! calls -/
theorem XI.blind {D : va_G} {cA : Nat → ClassId} {base n : Nat} {ad : Nat → Nat} {w : Nat → va_E} {av : List Value} : FrameBlind (va_Pc av (XI D cA base n ad w)) := fun a U g mk h => by
  obtain ⟨h0, h1, h2, h3, h4, h5⟩ := h
  exact ⟨h0, h1, va_K.moved (u := U) (U := U.calling g mk a) (Vm.Alike.refl U.vm) h2, h3, h4, XGl.calling h5⟩
theorem XI.at {D : va_G} {cA : Nat → ClassId} {base n : Nat} {ad : Nat → Nat} {w : Nat → va_E} {s U : State} {H : Heap} {locs : List Loc} (hbase : base ≤ s.heap.size) (hK : va_K D vwCl (xtys cA) s) (hP : va_P D vwCl (xws n ad w) H) (hD : va_D (xA base) (xws n ad w)) (hS : va_S (xA base) s.heap H locs) (hgl : XGl base s) (hU : U.heap = H) (hW : s.WarmedH U.vm) : XI D cA base n ad w U :=
  ⟨by rw [hU]; exact Nat.le_trans hbase hS.1, va_K.moved hW.alike hK, by rw [hU]; exact hP, hD, XGl.warm hgl hW (by rw [hU]; exact hS.2.1)⟩
theorem xTs_good {w : Cond} (h : w ∈ xTs) : (w.onTables && w.keeps) = true ∨ ∃ ty, w = .arrayClass ty := good_of_word (List.mem_filter.mp h).2
theorem xwd_good {y : MethodName} {bytes : ByteArray} {maxL : Nat} {ret : Option FieldType} (h : Cond.code y bytes maxL ret ∈ xTs) : GoodIn xTs (xwd y bytes maxL ret) := fun w hw => by
  rcases List.mem_cons.mp hw with rfl | h2
  · exact ⟨h, xTs_good h⟩
  · exact ⟨h2, xTs_good h2⟩
section XCall
variable {G : xG} {L : Launch} {D : va_G} {cA : Nat → ClassId} {base : Nat} {cc : ByteArray} {nL : Nat} {own : String} {R : Room}
variable {n : Nat} {ad : Nat → Nat} {w : Nat → va_E} {a b pc : Nat} {lv : Nat → Option Value} {st : List Value}
variable {index k9 ci maxL : Nat} {y : MethodName} {bytes : ByteArray} {ret : Option FieldType} {rm : Room} {fs As st0 : List Value} {post : xPost} {xp : xPosx}
/-- behind a call that returns or throws -/
theorem xr_back {p : Program} {l : Launch} {e : Env} {R : Room} {s : State} {m : MethodId} {args : Array Value} {below : List Frame} {meth : Method} {c : Code} {Q : State → Prop} {nL : Nat} {D : va_G} {base : Nat} {H : Heap} {locs : List Loc} {ls : Array Slot} {av : Array Value} {mc ms : Nat}
    (hr : vx_Run p l e R s m args below meth c H locs a b mc ms (F0 m pc ls st0) st (xQ D base post av) (xX D base xp) (xA base)) (hS : va_S (xA base) s.heap H locs) (hl : xlv ls nL lv)
    (Kx : ∀ E n' ad' w', xp E n' ad' w' → XX (p, l, e, R, s, m, args, below, meth, c, Q, nL, D, base) n' ad' w' (a + mc) (b + ms) pc lv st E)
    (K : ∀ v n' ad' w', post v n' ad' w' → XW (p, l, e, R, s, m, args, below, meth, c, Q, nL, D, base) n' ad' w' (a + mc) (b + ms) (pc + 3) lv (v.toList ++ st)) : W p l e R s m args below meth c H locs a b Q (F0 m pc ls st0) := by
  intro T hT X
  rcases hr T hT X with ⟨v, st₀, t, T', L, h0, X', hL, e1, e2, ⟨v', n', ad', w', hv, hp, hP', hD', hF⟩, go⟩ | ⟨q, st₀, t, T', L, E, ce, h0, X', hL, e1, e2, ⟨n', ad', w', hp, hP', hD', hF⟩, hce, hcv, hcl, go⟩
  · cases hv
    obtain ⟨k1, k2, k3⟩ := vx_keep h0 e1 hS (fun q _ h => h) (fun q h => h) hL hF
    obtain ⟨t2, a1, b1⟩ := K v n' ad' w' hp T'.heap (locs ++ L) ls (by rw [e1]; exact hP') hD' k3 hl T' rfl X'
    exact ⟨t2, go t2 a1, b1⟩
  · obtain ⟨k1, k2, k3⟩ := vx_keep h0 e1 hS (fun q _ h => h) (fun q h => h) hL hF
    obtain ⟨t2, a1, b1⟩ := Kx E n' ad' w' hp T'.heap (locs ++ L) ls q ce (by rw [e1]; exact hP') hD' k3 hl (by rw [e1]; exact hce) hcv hcl T' rfl X'
    exact ⟨t2, go.trans a1, b1⟩
theorem xr_backR {p : Program} {l : Launch} {e : Env} {R : Room} {s : State} {m : MethodId} {args : Array Value} {below : List Frame} {meth : Method} {c : Code} {Q : State → Prop} {nL : Nat} {D : va_G} {base : Nat} {H : Heap} {locs : List Loc} {ls : Array Slot} {av : Array Value} {mc ms : Nat}
    (hr : va_Run p l e R s m args below meth c H locs a b mc ms (F0 m pc ls st0) st (xQ D base post av) (xA base)) (hS : va_S (xA base) s.heap H locs) (hl : xlv ls nL lv)
    (K : ∀ v n' ad' w', post v n' ad' w' → XW (p, l, e, R, s, m, args, below, meth, c, Q, nL, D, base) n' ad' w' (a + mc) (b + ms) (pc + 3) lv (v.toList ++ st)) : W p l e R s m args below meth c H locs a b Q (F0 m pc ls st0) := by
  intro T hT X
  obtain ⟨v, st₀, t, T', L, h0, X', hL, e1, e2, ⟨v', n', ad', w', hv, hp, hP', hD', hF⟩, go⟩ := hr T hT X
  cases hv
  obtain ⟨k1, k2, k3⟩ := vx_keep h0 e1 hS (fun q _ h => h) (fun q h => h) hL hF
  obtain ⟨t2, a1, b1⟩ := K v n' ad' w' hp T'.heap (locs ++ L) ls (by rw [e1]; exact hP') hD' k3 hl T' rfl X'
  exact ⟨t2, go t2 a1, b1⟩
/-- a word of a nest, of this walk's tables -/
def XNw (G : xG) (q : Cond) : Prop := match G with
  | (_, _, _, _, s, _, _, _, _, _, _, _, _, _) => va_Nw q s
/-- invokevirtual of a method of the receiver's own class (private ones too) -/
theorem xr_callV (C : XC G L D cA base cc nL own R) (hM : XM L D cA base y bytes maxL ret rm (.ref (ad k9) :: As) n ad w post xp) (F : xMw own index y bytes maxL ret As.length) (F2 : Cond.instanceMethod y ∈ xTs ∧ Cond.selects y.cls y y ∈ xTs) (hw : w k9 = xOb ci fs) (hk : k9 < n) (hc : (vwCl[ci]?).map (fun q => q.1) = some y.cls)
    (hR : rm.frames + 1 ≤ R.frames ∧ 8 + (maxL + 11) + rm.locals ≤ R.locals) (hcs : a + rm.cells ≤ R.cells ∧ b + rm.slots ≤ R.slots) (hst : (st.map fun v => v.category).sum ≤ 8) (hs0 : st0 = As.reverse ++ .ref (ad k9) :: st) (d : decode cc pc = .ok (.invokevirtual index, 3))
    (Kx : ∀ E n' ad' w', xp E n' ad' w' → XX G n' ad' w' (a + rm.cells) (b + rm.slots) pc lv st E)
    (K : ∀ v n' ad' w', post v n' ad' w' → XW G n' ad' w' (a + rm.cells) (b + rm.slots) (pc + 3) lv (v.toList ++ st)) : XW G n ad w a b pc lv st0 := by
  obtain ⟨p, l, e, R1, s, m, args, below, meth, c, Q, nL1, D1, base1⟩ := G
  obtain ⟨rfl, rfl, rfl, rfl, rfl, hx, hb, hml, hown, hts, hK, hlocks, hbase, hgl⟩ := C
  intro H locs ls hP hD hS hl
  obtain ⟨F3, f1, f2, f3⟩ := F
  obtain ⟨q9, hq9, hq8⟩ : ∃ q, vwCl[ci]? = some q ∧ q.1 = y.cls := by
    cases h9 : vwCl[ci]? with
    | none => rw [h9] at hc; cases hc
    | some q => rw [h9] at hc; exact ⟨q, rfl, Option.some.inj hc⟩
  have hrecv := va_recv hK hP hq9 (xws_at hk hw)
  rw [hq8] at hrecv
  exact xr_back (vx_runV (As := As) (rest := st) (C := y.cls) (own := own) (index := index) (bytes := bytes) (maxL := maxL) (ret := ret) ⟨hx, hb, hml, hown, hts⟩ hM
    ⟨callB_of As.length hts (xwd_good f3) rfl rfl rfl (hts _ f2) (hts _ f1) F3 hR, hts _ F2.1, hts _ F2.2⟩
    ⟨XI.blind, hrecv, fun U hU hW => ⟨rfl, XI.at hbase hK hP hD hS hgl hU hW⟩⟩ rfl rfl hl.1 hs0 (lv_room hst) d hcs) hS hl Kx K
/-- invokestatic -/
theorem xr_callS (C : XC G L D cA base cc nL own R) (hM : XM L D cA base y bytes maxL ret rm As n ad w post xp) (F : xMw own index y bytes maxL ret As.length) (F2 : Cond.static y ∈ xTs)
    (hR : rm.frames + 1 ≤ R.frames ∧ 8 + (maxL + 11) + rm.locals ≤ R.locals) (hcs : a + rm.cells ≤ R.cells ∧ b + rm.slots ≤ R.slots) (hst : (st.map fun v => v.category).sum ≤ 8) (hs0 : st0 = As.reverse ++ st) (d : decode cc pc = .ok (.invokestatic index, 3))
    (Kx : ∀ E n' ad' w', xp E n' ad' w' → XX G n' ad' w' (a + rm.cells) (b + rm.slots) pc lv st E)
    (K : ∀ v n' ad' w', post v n' ad' w' → XW G n' ad' w' (a + rm.cells) (b + rm.slots) (pc + 3) lv (v.toList ++ st)) : XW G n ad w a b pc lv st0 := by
  obtain ⟨p, l, e, R1, s, m, args, below, meth, c, Q, nL1, D1, base1⟩ := G
  obtain ⟨rfl, rfl, rfl, rfl, rfl, hx, hb, hml, hown, hts, hK, hlocks, hbase, hgl⟩ := C
  intro H locs ls hP hD hS hl
  obtain ⟨F3, f1, f2, f3⟩ := F
  exact xr_back (vx_runS (As := As) (rest := st) (own := own) (index := index) (bytes := bytes) (maxL := maxL) (ret := ret) ⟨hx, hb, hml, hown, hts⟩ hM
    ⟨callB_of As.length hts (xwd_good f3) rfl rfl rfl (hts _ f2) (hts _ f1) F3 hR, hts _ F2⟩
    ⟨XI.blind, fun U hU hW => ⟨rfl, XI.at hbase hK hP hD hS hgl hU hW⟩⟩ rfl rfl hl.1 hs0 (lv_room hst) d hcs) hS hl Kx K
/-- invokespecial of a constructor that never throws -/
theorem xr_callI (C : XC G L D cA base cc nL own R) (hM : XM L D cA base y bytes maxL none rm (.ref (ad k9) :: As) n ad w post (fun _ _ _ _ => False)) (F : xMw own index y bytes maxL none As.length) (F2 : y.name = "<init>" ∧ Cond.instanceMethod y ∈ xTs)
    (hR : rm.frames + 1 ≤ R.frames ∧ 8 + (maxL + 11) + rm.locals ≤ R.locals) (hcs : a + rm.cells ≤ R.cells ∧ b + rm.slots ≤ R.slots) (hst : (st.map fun v => v.category).sum ≤ 8) (hs0 : st0 = As.reverse ++ .ref (ad k9) :: st) (d : decode cc pc = .ok (.invokespecial index, 3))
    (K : ∀ v n' ad' w', post v n' ad' w' → XW G n' ad' w' (a + rm.cells) (b + rm.slots) (pc + 3) lv (v.toList ++ st)) : XW G n ad w a b pc lv st0 := by
  obtain ⟨p, l, e, R1, s, m, args, below, meth, c, Q, nL1, D1, base1⟩ := G
  obtain ⟨rfl, rfl, rfl, rfl, rfl, hx, hb, hml, hown, hts, hK, hlocks, hbase, hgl⟩ := C
  intro H locs ls hP hD hS hl
  obtain ⟨F3, f1, f2, f3⟩ := F
  exact xr_backR (va_runI (As := As) (rest := st) (own := own) (index := index) (bytes := bytes) (maxL := maxL) ⟨hx, hb, hml, hown, hts⟩ (xm_met hM)
    ⟨callB_of As.length hts (xwd_good f3) rfl rfl rfl (hts _ f2) (hts _ f1) F3 hR, F2.1, hts _ F2.2⟩
    ⟨XI.blind, fun U hU hW => ⟨rfl, XI.at hbase hK hP hD hS hgl hU hW⟩⟩ rfl rfl hl.1 hs0 (lv_room hst) d hcs) hS hl K
/-- the same of a nest mate's private constructor -/
theorem xr_callIN (C : XC G L D cA base cc nL own R) {host : String} (hM : XM L D cA base y bytes maxL none rm (.ref (ad k9) :: As) n ad w post (fun _ _ _ _ => False)) (F3 : y.cls ≠ "java/lang/invoke/MethodHandle" ∧ y.cls ≠ "java/lang/invoke/VarHandle" ∧ (parseMethodDescriptor y.desc).map (fun d => d.parameters.length) = some As.length) (f1 : XNw G (.methodLinkNest own index y host)) (f2 : Cond.initialized y.cls ∈ xTs) (f3 : Cond.code y bytes maxL none ∈ xTs) (F2 : y.name = "<init>" ∧ Cond.instanceMethod y ∈ xTs)
    (hR : rm.frames + 1 ≤ R.frames ∧ 8 + (maxL + 11) + rm.locals ≤ R.locals) (hcs : a + rm.cells ≤ R.cells ∧ b + rm.slots ≤ R.slots) (hst : (st.map fun v => v.category).sum ≤ 8) (hs0 : st0 = As.reverse ++ .ref (ad k9) :: st) (d : decode cc pc = .ok (.invokespecial index, 3))
    (K : ∀ v n' ad' w', post v n' ad' w' → XW G n' ad' w' (a + rm.cells) (b + rm.slots) (pc + 3) lv (v.toList ++ st)) : XW G n ad w a b pc lv st0 := by
  obtain ⟨p, l, e, R1, s, m, args, below, meth, c, Q, nL1, D1, base1⟩ := G
  obtain ⟨rfl, rfl, rfl, rfl, rfl, hx, hb, hml, hown, hts, hK, hlocks, hbase, hgl⟩ := C
  intro H locs ls hP hD hS hl
  exact xr_backR (va_runIN (As := As) (rest := st) (own := own) (index := index) (host := host) (bytes := bytes) (maxL := maxL) ⟨hx, hb, hml, hown, hts⟩ (xm_met hM)
    ⟨va_cnB As.length hts (xwd_good f3) rfl rfl rfl f1 (hts _ f2) F3 hR, F2.1, hts _ F2.2⟩
    ⟨XI.blind, fun U hU hW => ⟨rfl, XI.at hbase hK hP hD hS hgl hU hW⟩⟩ rfl rfl hl.1 hs0 (lv_room hst) d hcs) hS hl K
/-- super() of Object -/
theorem xr_objInit (C : XC G L D cA base cc nL own R) {q : Nat} (F : Cond.methodLink own index objectInit ∈ xTs ∧ Cond.instanceMethod objectInit ∈ xTs ∧ Cond.code objectInit ⟨#[0xb1]⟩ 1 none ∈ xTs) (hR : 1 ≤ R.frames) (hst : (st.map fun v => v.category).sum + 12 ≤ R.locals) (d : decode cc pc = .ok (.invokespecial index, 3))
    (K : XW G n ad w a b (pc + 3) lv st) : XW G n ad w a b pc lv (.ref q :: st) := by
  obtain ⟨p, l, e, R1, s, m, args, below, meth, c, Q, nL1, D1, base1⟩ := G
  obtain ⟨rfl, rfl, rfl, rfl, rfl, hx, hb, hml, hown, hts, hK, hlocks, hbase, hgl⟩ := C
  intro H locs ls hP hD hS hl
  exact W.objInit hx hb hown (hts _ F.1) (hts _ F.2.1) (hts _ F.2.2) rfl (by rw [hml]; exact hl.1) rfl d hR (by show 2 * 0 + _ + 12 ≤ _; omega) (K H locs ls hP hD hS hl)
theorem xr_new (C : XC G L D cA base cc nL own R) {N : Nat} {Cn : String} {T : u_T} {ty : Nat → FieldType} (hc : vwCl[ci]? = some (Cn, T, N)) (hin : ∀ w ∈ u_ws Cn T N, w ∈ xTs) (hty : ∀ k, k < N → parseFieldDescriptor (T k).2.2.1 = some (ty k)) (hcl : Cond.classLink own index Cn ∈ xTs ∧ Cond.instantiable Cn N ∈ xTs ∧ Cond.initialized Cn ∈ xTs) (hfs : ∀ j, j < N → defaultValue (ty j) = vp_V fs j) (hcs : a + 1 ≤ R.cells ∧ b + N ≤ R.slots) (d : decode cc pc = .ok (.new index, 3))
    (K : ∀ q : Nat, XW G (n + 1) (va_up ad n q) (va_up w n (xOb ci fs)) (a + 1) (b + N) (pc + 3) lv (.ref q :: st)) : XW G n ad w a b pc lv st := by
  obtain ⟨p, l, e, R1, s, m, args, below, meth, c, Q, nL1, D1, base1⟩ := G
  obtain ⟨rfl, rfl, rfl, rfl, rfl, hx, hb, hml, hown, hts, hK, hlocks, hbase, hgl⟩ := C
  intro H locs ls hP hD hS hl
  refine va_new hx hb hts hin ty hty hown (hts _ hcl.1) (hts _ hcl.2.1) (hts _ hcl.2.2) hK hP hD hS (fun q h => Nat.le_trans hbase h) hc hfs hcs.1 hcs.2 d (fun q H1 hP1 hD1 hS1 => ?_)
  rw [xws_push] at hP1 hD1
  exact K q H1 locs ls hP1 hD1 hS1 hl
theorem xz_newi (C : XC G L D cA base cc nL own R) {z : Int} {atype : ArrayType} {t0 : Nat} (hat : (atype = .int ∧ t0 = 0) ∨ (atype = .boolean ∧ t0 = 1)) (harr : Cond.arrayClass (newarray.typeOf atype) ∈ xTs) (hz : 0 ≤ z ∧ z < 100000) (hcs : a + 1 ≤ R.cells ∧ b + z.toNat ≤ R.slots) (d : decode cc pc = .ok (.newarray atype, 2))
    (K : ∀ q : Nat, XW G (n + 1) (va_up ad n q) (va_up w n (xIA (cA t0) z.toNat (fun _ => 0))) (a + 1) (b + z.toNat) (pc + 2) lv (.ref q :: st)) : XW G n ad w a b pc lv (.int (zI z) :: st) := by
  obtain ⟨p, l, e, R1, s, m, args, below, meth, c, Q, nL1, D1, base1⟩ := G
  obtain ⟨rfl, rfl, rfl, rfl, rfl, hx, hb, hml, hown, hts, hK, hlocks, hbase, hgl⟩ := C
  intro H locs ls hP hD hS hl
  refine va_newaK hx hb (hts _ harr) rfl d rfl (fun q => by rw [show (0 : Int32) = zI 0 from rfl, zI_lt (by omega) (by omega)] at q; omega) (zI_clamp (by omega)) (by rcases hat with ⟨rfl, -⟩ | ⟨rfl, -⟩ <;> simp [newarray.typeOf, componentBytes] <;> omega) hcs.1 hcs.2 rfl (fun H1 cA1 e1 z1 o1 hAr hNm => ?_)
  have hcA : cA1 = cA t0 := by
    rcases hat with ⟨rfl, rfl⟩ | ⟨rfl, rfl⟩
    · exact Option.some.inj (hNm.symm.trans (hK.2 0 _ rfl).2)
    · exact Option.some.inj (hNm.symm.trans (hK.2 1 _ rfl).2)
  subst hcA
  have hk : ∀ (k : Nat) (x : Nat × va_E), (xws n ad w)[k]? = some x → H1[x.1]? = H[x.1]? := fun k x hx => o1 x.1 ((hP k x hx).lt)
  have hP1 : va_P D1 vwCl (xws n ad w ++ [(H.size, xIA (cA t0) z.toNat (fun _ => 0))]) H1 := (hP.kept hk).app (fun k x hx => by
    have hz : k < 1 := (List.getElem?_eq_some_iff.mp hx).1
    rw [show k = 0 by omega] at hx
    cases hx
    show H1[H.size]? = some (vp_cell _ _)
    rw [e1]
    rcases hat with ⟨rfl, rfl⟩ | ⟨rfl, rfl⟩ <;> rfl)
  have hD1 := hD.push (e := xIA (cA t0) z.toNat (fun _ => 0)) hP rfl (Nat.le_trans hbase hS.1)
  rw [xws_push] at hP1 hD1
  exact K H.size H1 locs ls hP1 hD1 ⟨Nat.le_trans hS.1 (by omega), fun x h1 h2 => (o1 x (Nat.lt_of_lt_of_le h1 hS.1)).trans (hS.2.1 x h1 h2), hS.2.2⟩ hl
theorem xz_newl (C : XC G L D cA base cc nL own R) {z : Int} (harr : Cond.arrayClass .long ∈ xTs) (hz : 0 ≤ z ∧ z < 100000) (hcs : a + 1 ≤ R.cells ∧ b + z.toNat ≤ R.slots) (d : decode cc pc = .ok (.newarray .long, 2))
    (K : ∀ q : Nat, XW G (n + 1) (va_up ad n q) (va_up w n (xLA (cA 2) z.toNat (fun _ => 0))) (a + 1) (b + z.toNat) (pc + 2) lv (.ref q :: st)) : XW G n ad w a b pc lv (.int (zI z) :: st) := by
  obtain ⟨p, l, e, R1, s, m, args, below, meth, c, Q, nL1, D1, base1⟩ := G
  obtain ⟨rfl, rfl, rfl, rfl, rfl, hx, hb, hml, hown, hts, hK, hlocks, hbase, hgl⟩ := C
  intro H locs ls hP hD hS hl
  refine va_newaK hx hb (atype := .long) (hts _ harr) rfl d rfl (fun q => by rw [show (0 : Int32) = zI 0 from rfl, zI_lt (by omega) (by omega)] at q; omega) (zI_clamp (by omega)) (by simp [newarray.typeOf, componentBytes] <;> omega) hcs.1 hcs.2 rfl (fun H1 cA1 e1 z1 o1 hAr hNm => ?_)
  have hcA : cA1 = cA 2 := Option.some.inj (hNm.symm.trans (hK.2 2 _ rfl).2)
  subst hcA
  have hk : ∀ (k : Nat) (x : Nat × va_E), (xws n ad w)[k]? = some x → H1[x.1]? = H[x.1]? := fun k x hx => o1 x.1 ((hP k x hx).lt)
  have hP1 : va_P D1 vwCl (xws n ad w ++ [(H.size, xLA (cA 2) z.toNat (fun _ => 0))]) H1 := (hP.kept hk).app (fun k x hx => by
    have hz : k < 1 := (List.getElem?_eq_some_iff.mp hx).1
    rw [show k = 0 by omega] at hx
    cases hx
    show H1[H.size]? = some (vp_cell _ _)
    rw [e1]
    rfl)
  have hD1 := hD.push (e := xLA (cA 2) z.toNat (fun _ => 0)) hP rfl (Nat.le_trans hbase hS.1)
  rw [xws_push] at hP1 hD1
  exact K H.size H1 locs ls hP1 hD1 ⟨Nat.le_trans hS.1 (by omega), fun x h1 h2 => (o1 x (Nat.lt_of_lt_of_le h1 hS.1)).trans (hS.2.1 x h1 h2), hS.2.2⟩ hl
theorem xz_mmax (C : XC G L D cA base cc nL own R) {x y : Int} (hx9 : -2147483648 ≤ x ∧ x < 2147483648) (hy9 : -2147483648 ≤ y ∧ y < 2147483648) (F : Cond.methodLink own index Lib.Math.max.name ∈ xTs ∧ Cond.static Lib.Math.max.name ∈ xTs ∧ Cond.initialized "java/lang/Math" ∈ xTs ∧ Cond.code Lib.Math.max.name Lib.Math.max.code 2 (some .int) ∈ xTs) (hR : 1 ≤ R.frames) (hst : (st.map fun v => v.category).sum + 13 ≤ R.locals) (hcs : a ≤ R.cells ∧ b ≤ R.slots) (d : decode cc pc = .ok (.invokestatic index, 3))
    (K : XW G n ad w a b (pc + 3) lv (.int (zI (max x y)) :: st)) : XW G n ad w a b pc lv (.int (zI y) :: .int (zI x) :: st) := by
  obtain ⟨p, l, e, R1, s, m, args, below, meth, c, Q, nL1, D1, base1⟩ := G
  obtain ⟨rfl, rfl, rfl, rfl, rfl, hx, hb, hml, hown, hts, hK, hlocks, hbase, hgl⟩ := C
  intro H locs ls hP hD hS hl
  refine va_mmax hx hb (by rw [hml]; exact hl.1.symm) hown (hts _ F.1) (hts _ F.2.1) (hts _ F.2.2.1) (hts _ F.2.2.2) hR hst hcs.1 hcs.2 d ?_
  have e9 : (if zI x < zI y then zI y else zI x) = zI (max x y) := by
    by_cases h : x < y
    · rw [if_pos ((zI_lt hx9 hy9).mpr h), Int.max_eq_right (by omega)]
    · rw [if_neg (fun q => h ((zI_lt hx9 hy9).mp q)), Int.max_eq_left (by omega)]
  rw [e9]
  exact K H locs ls hP hD hS hl
end XCall
