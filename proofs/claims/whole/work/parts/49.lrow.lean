/-! rows of the law: a method with handlers of its own; catching; the script -/
def XMH (L : Launch) (D : va_G) (cA : Nat → ClassId) (base : Nat) (y : MethodName) (bytes : ByteArray) (maxL : Nat) (ret : Option FieldType) (hh : List (Nat × Nat × Nat × Nat)) (rm : Room) (av : List Value) (n : Nat) (ad : Nat → Nat) (w : Nat → va_E) (post : xPost) : Prop :=
  vx_Met L y (Cond.codeWith y bytes maxL ret hh :: xTs) rm (va_Pc av (XI D cA base n ad w)) (xQ D base post) (xX D base xF) rm.cells rm.slots (xA base)
/-- what such a walk owes at its end -/
def XEH (G : xG) (D9 : va_G) (base9 : Nat) (post : xPost) (mc ms : Nat) (ret : Option FieldType) (hh : List (Nat × Nat × Nat × Nat)) : Prop := match G with
  | (_, _, _, _, s, _, args, below, meth, c, Q, _, D, base) => Q = vx_MQ below (xQ D9 base9 post) (xX D9 base9 xF) args s mc ms (xA base9) ∧ meth.sig.returnType = ret ∧ c.exceptionTable.toList = tableOf hh
/-- a method with handlers, by its place in the pool of own -/
def xMwH (own : String) (index : Nat) (y : MethodName) (bytes : ByteArray) (maxL : Nat) (ret : Option FieldType) (hh : List (Nat × Nat × Nat × Nat)) (k : Nat) : Prop := (y.cls ≠ "java/lang/invoke/MethodHandle" ∧ y.cls ≠ "java/lang/invoke/VarHandle" ∧ (parseMethodDescriptor y.desc).map (fun d => d.parameters.length) = some k) ∧ Cond.methodLink own index y ∈ xTs ∧ Cond.initialized y.cls ∈ xTs ∧ Cond.codeWith y bytes maxL ret hh ∈ xTs
section XHL
variable {L : Launch} {D : va_G} {cA : Nat → ClassId} {base : Nat} {y : MethodName} {bytes : ByteArray} {maxL : Nat} {ret : Option FieldType} {hh : List (Nat × Nat × Nat × Nat)} {rm : Room} {av : List Value} {n : Nat} {ad : Nat → Nat} {w : Nat → va_E} {post : xPost}
theorem xm_ofH (hy : plainName y.cls = true) (hav : ∀ v ∈ av, v.category = 1) (hlen : (lg_sl av).length ≤ maxL)
    (body : ∀ G : xG, XC G L D cA base bytes maxL y.cls rm → XEH G D base post rm.cells rm.slots ret hh → XW G n ad w 0 0 0 (fun i => av[i]?) []) : XMH L D cA base y bytes maxL ret hh rm av n ad w post := by
  refine vx_ofWH (cc := bytes) (maxL := maxL) (ret := ret) (hh := hh) hy rfl ?_
  intro p e s m args below meth c s₁ B hml hv
  obtain ⟨rfl, h1, h2, h3, h4, h5⟩ := hv
  have hts := atoms_spec (ws := Cond.codeWith y bytes maxL ret hh :: xTs) B.pre
  have ht : c.exceptionTable.toList = tableOf hh := vx_table (x := y) B (hts _ List.mem_cons_self)
  have K := body (p, L, e, rm, s, m, av.toArray, below, meth, c, vx_MQ below (xQ D base post) (xX D base xF) av.toArray s rm.cells rm.slots (xA base), maxL, D, base)
    ⟨rfl, rfl, rfl, rfl, rfl, B.exec, B.bytes, hml, findClass_of_methodNamed B.named, fun w hw => hts w (List.mem_cons_of_mem _ hw), h2, B.notSynchronized, h1, h5⟩ ⟨rfl, B.returns, ht⟩
  have hl := lv_entry av (n := maxL) hlen
  show W p L e rm s m av.toArray below meth c s.heap [] 0 0 _ (entryFrame m av.toArray maxL)
  rw [lg_entry_eq]
  exact K s.heap [] _ h3 h4 va_S.rf (xlv_args hav hl)
theorem xm_monoH {post2 : xPost} (h : XMH L D cA base y bytes maxL ret hh rm av n ad w post) (h1 : ∀ v n' ad' w', post v n' ad' w' → post2 v n' ad' w') : XMH L D cA base y bytes maxL ret hh rm av n ad w post2 := by
  intro p e g1 g2 g3 s m args below g4 g5 g6 g7
  obtain ⟨k, o, a1, a2, a3, a4⟩ := h p e g1 g2 g3 s m args below g4 g5 g6 g7
  refine ⟨k, o, a1, a2, a3, ?_⟩
  rcases a4 with ⟨⟨v, n', ad', w', b1, b2, b3⟩, L, hL⟩ | ⟨q, ho, E, ce, L, ⟨n', ad', w', b2, b3⟩, r⟩
  · exact Or.inl ⟨⟨v, n', ad', w', b1, h1 _ _ _ _ b2, b3⟩, L, hL⟩
  · exact b2.elim
end XHL
section XHR
variable {G : xG} {L : Launch} {D : va_G} {cA : Nat → ClassId} {base : Nat} {cc : ByteArray} {nL : Nat} {own : String} {R : Room}
variable {n : Nat} {ad : Nat → Nat} {w : Nat → va_E} {a b pc : Nat} {lv : Nat → Option Value} {st : List Value}
variable {post : xPost} {mc ms : Nat} {ret : Option FieldType} {hh : List (Nat × Nat × Nat × Nat)}
theorem xr_iretH (C : XC G L D cA base cc nL own R) (E : XEH G D base post mc ms (some .int) hh) {v : Int32} (hp : post (some (.int v)) n ad w) (h1 : a ≤ mc) (h2 : b ≤ ms) (d : decode cc pc = .ok (.ireturn, 1)) : XW G n ad w a b pc lv [.int v] := by
  obtain ⟨p, l, e, R1, s, m, args, below, meth, c, Q, nL1, D1, base1⟩ := G
  obtain ⟨rfl, rfl, rfl, rfl, rfl, hx, hb, hml, hown, hts, hK, hlocks, hbase, hgl⟩ := C
  intro H locs ls hP hD hS hl
  obtain ⟨rfl, hr, -⟩ := E
  exact W.widen h1 h2 (vx_ret (W.iret hx hb hr (fun t ht hW => ⟨_, n, ad, w, rfl, hp, by rw [ht]; exact hP, hD, hS.F ht⟩) hS.2.2 d hlocks))
/-- an exception of class En is caught by the entry x of the table -/
theorem xr_catch (C : XC G L D cA base cc nL own R) (E : XEH G D base post mc ms ret hh) {En : String} (pre : List ExceptionTableEntry) (x : ExceptionTableEntry) (suf : List ExceptionTableEntry) (hsplit : tableOf hh = pre ++ x :: suf)
    (hpass : ∀ z ∈ pre, z.catchType ≠ 0 ∧ ∃ nm : String, Cond.classLink own z.catchType nm ∈ xTs ∧ (En, nm) ∈ xNc) (hx9 : covers x pc = true) (h0 : x.catchType ≠ 0) (hlink : Cond.classLink own x.catchType En ∈ xTs) (hce : En ∈ xEs)
    (K : ∀ q : Nat, XW G n ad w a b x.handlerPc lv [.ref q]) : XX G n ad w a b pc lv st En := by
  obtain ⟨p, l, e, R1, s, m, args, below, meth, c, Q, nL1, D1, base1⟩ := G
  obtain ⟨rfl, rfl, rfl, rfl, rfl, hx, hb, hml, hown, hts, hK, hlocks, hbase, hgl⟩ := C
  obtain ⟨rfl, hr, ht⟩ := E
  intro H locs ls q ce hP hD hS hl hc hv hcl
  exact vx_catch hown pre x suf (ht.trans hsplit) (fun z hz => by
    obtain ⟨h1, nm, h2, h3⟩ := hpass z hz
    exact Or.inr ⟨h1, nm, hts _ h2, hgl.2.2.2.2.1 _ h3⟩) hx9 h0 (hts _ hlink) (va_Nw.use rfl (hgl.2.2.2.2.2.1 En hce)) hc hv hcl (K q H locs ls hP hD hS hl)
/-- invokestatic of a method with handlers -/
theorem xr_callSH (C : XC G L D cA base cc nL own R) {y : MethodName} {bytes : ByteArray} {maxL index : Nat} {rm : Room} {As st0 : List Value} (hM : XMH L D cA base y bytes maxL ret hh rm As n ad w post) (F : xMwH own index y bytes maxL ret hh As.length) (F2 : Cond.static y ∈ xTs)
    (hR : rm.frames + 1 ≤ R.frames ∧ 8 + (maxL + 11) + rm.locals ≤ R.locals) (hcs : a + rm.cells ≤ R.cells ∧ b + rm.slots ≤ R.slots) (hst : (st.map fun v => v.category).sum ≤ 8) (hs0 : st0 = As.reverse ++ st) (d : decode cc pc = .ok (.invokestatic index, 3))
    (K : ∀ v n' ad' w', post v n' ad' w' → XW G n' ad' w' (a + rm.cells) (b + rm.slots) (pc + 3) lv (v.toList ++ st)) : XW G n ad w a b pc lv st0 := by
  obtain ⟨p, l, e, R1, s, m, args, below, meth, c, Q, nL1, D1, base1⟩ := G
  obtain ⟨rfl, rfl, rfl, rfl, rfl, hx, hb, hml, hown, hts, hK, hlocks, hbase, hgl⟩ := C
  intro H locs ls hP hD hS hl
  obtain ⟨F3, f1, f2, f3⟩ := F
  have hG : GoodIn xTs (va_wsS own index y (Cond.codeWith y bytes maxL ret hh :: xTs)) := fun w9 hw9 => by
    have hm : w9 ∈ xTs := by
      rcases List.mem_append.mp hw9 with h | h
      · rcases List.mem_cons.mp h with rfl | h
        · exact f1
        · rcases List.mem_cons.mp h with rfl | h
          · exact F2
          · rcases List.mem_cons.mp h with rfl | h
            · exact f2
            · cases h
      · rcases List.mem_cons.mp h with rfl | h
        · exact f3
        · exact h
    exact ⟨hm, xTs_good hm⟩
  exact xr_back (vx_runSX (As := As) (rest := st) (own := own) (index := index) (bytes := bytes) (maxL := maxL) (ret := ret) (hh := hh) ⟨hx, hb, hml, hown, hts⟩ hM
    (vx_cwSW As.length hts hG rfl rfl rfl F3 hR)
    ⟨XI.blind, fun U hU hW => ⟨rfl, XI.at hbase hK hP hD hS hgl hU hW⟩⟩ rfl rfl hl.1 hs0 (lv_room hst) d hcs) hS hl (fun _ _ _ _ h => h.elim) K
/-- the script -/
def XSc (G : xG) (b9 L9 : Nat) (xs : Nat → Int32) : Prop := match G with
  | (_, _, _, _, s, _, _, _, _, _, _, _, _, base) => va_X b9 L9 xs s s.heap ∧ b9 < s.heap.size ∧ ¬ xA base b9
theorem xr_sld (C : XC G L D cA base cc nL own R) {b9 L9 : Nat} {xs : Nat → Int32} (S9 : XSc G b9 L9 xs) {i : Int} (hi : 0 ≤ i ∧ i < L9) (hN : L9 < 2147483648) (d : decode cc pc = .ok (.iaload, 1)) (K : XW G n ad w a b (pc + 1) lv (.int (zI (xs i.toNat).toInt) :: st)) : XW G n ad w a b pc lv (.int (zI i) :: .ref b9 :: st) := by
  obtain ⟨p, l, e, R1, s, m, args, below, meth, c, Q, nL1, D1, base1⟩ := G
  obtain ⟨rfl, rfl, rfl, rfl, rfl, hx, hb, hml, hown, hts, hK, hlocks, hbase, hgl⟩ := C
  obtain ⟨h1, h2, h3⟩ := S9
  intro H locs ls hP hD hS hl
  refine va_sld hx hb h1 h2 h3 hS (zI_in hi hN) d ?_
  rw [zI_clamp (by omega), ← zI_of (xs i.toNat)]
  exact K H locs ls hP hD hS hl
theorem xr_slen (C : XC G L D cA base cc nL own R) {b9 L9 : Nat} {xs : Nat → Int32} (S9 : XSc G b9 L9 xs) (d : decode cc pc = .ok (.arraylength, 1)) (K : XW G n ad w a b (pc + 1) lv (.int (zI (L9 : Int)) :: st)) : XW G n ad w a b pc lv (.ref b9 :: st) := by
  obtain ⟨p, l, e, R1, s, m, args, below, meth, c, Q, nL1, D1, base1⟩ := G
  obtain ⟨rfl, rfl, rfl, rfl, rfl, hx, hb, hml, hown, hts, hK, hlocks, hbase, hgl⟩ := C
  obtain ⟨h1, h2, h3⟩ := S9
  intro H locs ls hP hD hS hl
  refine va_slen hx hb h1 h2 h3 hS d ?_
  rw [zI_nat]
  exact K H locs ls hP hD hS hl
end XHR
theorem lz0 : Int64.ofNat 0 = (zI 0).toInt64 := by decide
theorem lz1 : Int64.ofNat 1 = (zI 1).toInt64 := by decide
theorem xmh_La_73 : xMwH R_La 73 y_La_leaf c_La_leaf 4 (some .int) [(0, 9, 12, 13), (0, 9, 15, 15)] 3 := ⟨⟨by decide +kernel, by decide +kernel, by decide +kernel⟩, xw_mem 220 (by decide +kernel) (by decide +kernel), xw_mem 0 (by decide +kernel) (by decide +kernel), xw_mem 222 (by decide +kernel) (by decide +kernel)⟩
theorem xmh_La_83 : xMwH R_La 83 y_La_hole c_La_hole 4 (some .int) [(0, 9, 12, 13), (0, 9, 15, 15)] 3 := ⟨⟨by decide +kernel, by decide +kernel, by decide +kernel⟩, xw_mem 347 (by decide +kernel) (by decide +kernel), xw_mem 0 (by decide +kernel) (by decide +kernel), xw_mem 349 (by decide +kernel) (by decide +kernel)⟩
theorem xmh_La_86 : xMwH R_La 86 y_La_node c_La_node 6 (some .int) [(0, 12, 15, 24), (0, 12, 19, 13), (0, 12, 23, 15)] 5 := ⟨⟨by decide +kernel, by decide +kernel, by decide +kernel⟩, xw_mem 355 (by decide +kernel) (by decide +kernel), xw_mem 0 (by decide +kernel) (by decide +kernel), xw_mem 357 (by decide +kernel) (by decide +kernel)⟩
theorem xmh_La_90 : xMwH R_La 90 y_La_rule c_La_rule 6 (some .int) [(0, 12, 15, 24), (0, 12, 19, 13)] 5 := ⟨⟨by decide +kernel, by decide +kernel, by decide +kernel⟩, xw_mem 384 (by decide +kernel) (by decide +kernel), xw_mem 0 (by decide +kernel) (by decide +kernel), xw_mem 386 (by decide +kernel) (by decide +kernel)⟩
theorem xmh_La_93 : xMwH R_La 93 y_La_holds c_La_holds 5 (some .int) [(0, 17, 20, 13)] 4 := ⟨⟨by decide +kernel, by decide +kernel, by decide +kernel⟩, xw_mem 414 (by decide +kernel) (by decide +kernel), xw_mem 0 (by decide +kernel) (by decide +kernel), xw_mem 416 (by decide +kernel) (by decide +kernel)⟩
theorem xmh_La_97 : xMwH R_La 97 y_La_choose c_La_choose 5 (some .int) [(0, 17, 20, 24)] 4 := ⟨⟨by decide +kernel, by decide +kernel, by decide +kernel⟩, xw_mem 422 (by decide +kernel) (by decide +kernel), xw_mem 0 (by decide +kernel) (by decide +kernel), xw_mem 424 (by decide +kernel) (by decide +kernel)⟩
theorem xmh_La_101 : xMwH R_La 101 y_La_rewrite c_La_rewrite 5 (some .int) [(0, 10, 13, 24), (0, 10, 17, 13), (0, 10, 21, 15)] 4 := ⟨⟨by decide +kernel, by decide +kernel, by decide +kernel⟩, xw_mem 434 (by decide +kernel) (by decide +kernel), xw_mem 0 (by decide +kernel) (by decide +kernel), xw_mem 436 (by decide +kernel) (by decide +kernel)⟩
theorem xmh_La_104 : xMwH R_La 104 y_La_normal c_La_normal 4 (some .int) [(0, 9, 12, 24), (0, 9, 15, 13), (0, 9, 18, 15)] 3 := ⟨⟨by decide +kernel, by decide +kernel, by decide +kernel⟩, xw_mem 509 (by decide +kernel) (by decide +kernel), xw_mem 0 (by decide +kernel) (by decide +kernel), xw_mem 511 (by decide +kernel) (by decide +kernel)⟩
theorem xmh_La_107 : xMwH R_La 107 y_La_joins c_La_joins 5 (some .int) [(0, 17, 20, 24), (0, 17, 24, 13), (0, 17, 28, 15)] 4 := ⟨⟨by decide +kernel, by decide +kernel, by decide +kernel⟩, xw_mem 516 (by decide +kernel) (by decide +kernel), xw_mem 0 (by decide +kernel) (by decide +kernel), xw_mem 518 (by decide +kernel) (by decide +kernel)⟩
theorem xmh_La_115 : xMwH R_La 115 y_La_row c_La_row 5 (some .int) [(0, 10, 13, 24), (0, 10, 17, 13)] 4 := ⟨⟨by decide +kernel, by decide +kernel, by decide +kernel⟩, xw_mem 523 (by decide +kernel) (by decide +kernel), xw_mem 0 (by decide +kernel) (by decide +kernel), xw_mem 525 (by decide +kernel) (by decide +kernel)⟩
theorem xmh_La_126 : xMwH R_La 126 y_La_lessens c_La_lessens 4 (some .int) [(0, 16, 19, 24)] 3 := ⟨⟨by decide +kernel, by decide +kernel, by decide +kernel⟩, xw_mem 532 (by decide +kernel) (by decide +kernel), xw_mem 0 (by decide +kernel) (by decide +kernel), xw_mem 534 (by decide +kernel) (by decide +kernel)⟩
theorem xmh_La_129 : xMwH R_La 129 y_La_usable c_La_usable 4 (some .int) [(0, 16, 19, 24)] 3 := ⟨⟨by decide +kernel, by decide +kernel, by decide +kernel⟩, xw_mem 539 (by decide +kernel) (by decide +kernel), xw_mem 0 (by decide +kernel) (by decide +kernel), xw_mem 541 (by decide +kernel) (by decide +kernel)⟩
theorem xmh_La_132 : xMwH R_La 132 y_La_above c_La_above 5 (some .int) [(0, 17, 20, 24)] 4 := ⟨⟨by decide +kernel, by decide +kernel, by decide +kernel⟩, xw_mem 547 (by decide +kernel) (by decide +kernel), xw_mem 0 (by decide +kernel) (by decide +kernel), xw_mem 549 (by decide +kernel) (by decide +kernel)⟩
theorem xmh_La_135 : xMwH R_La 135 y_La_measure c_La_measure 5 (some .int) [(0, 10, 13, 24), (0, 10, 17, 13)] 4 := ⟨⟨by decide +kernel, by decide +kernel, by decide +kernel⟩, xw_mem 554 (by decide +kernel) (by decide +kernel), xw_mem 0 (by decide +kernel) (by decide +kernel), xw_mem 556 (by decide +kernel) (by decide +kernel)⟩
theorem xmh_La_138 : xMwH R_La 138 y_La_at c_La_at 5 (some .int) [(0, 10, 13, 24)] 4 := ⟨⟨by decide +kernel, by decide +kernel, by decide +kernel⟩, xw_mem 562 (by decide +kernel) (by decide +kernel), xw_mem 0 (by decide +kernel) (by decide +kernel), xw_mem 564 (by decide +kernel) (by decide +kernel)⟩
theorem xmh_La_141 : xMwH R_La 141 y_La_head c_La_head 4 (some .int) [(0, 9, 12, 24)] 3 := ⟨⟨by decide +kernel, by decide +kernel, by decide +kernel⟩, xw_mem 573 (by decide +kernel) (by decide +kernel), xw_mem 0 (by decide +kernel) (by decide +kernel), xw_mem 575 (by decide +kernel) (by decide +kernel)⟩
theorem xkl_IA : Cond.classLink R_La 13 "java/lang/IllegalArgumentException" ∈ xTs := xw_mem 223 (by decide +kernel) (by decide +kernel)
theorem xkl_IS : Cond.classLink R_La 15 "java/lang/IllegalStateException" ∈ xTs := xw_mem 224 (by decide +kernel) (by decide +kernel)
theorem xkl_IO : Cond.classLink R_La 24 "java/lang/IndexOutOfBoundsException" ∈ xTs := xw_mem 358 (by decide +kernel) (by decide +kernel)
