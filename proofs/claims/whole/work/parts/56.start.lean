/-- what the constructors leave is a beginning -/
def xS0 : xS := (0, fun _ => 0, fun _ => 0, fun _ => 0, fun _ => 0, fun _ => 0, fun _ => 0, fun _ => 0)
set_option maxHeartbeats 4000000 in
set_option maxRecDepth 100000 in
theorem ji_init {ad : Nat → Nat} {cA : Nat → ClassId} {w : Nat → va_E} (g0 : w 0 = rsO ad 25 27 0 false) (g1 : w 1 = trO ad 0) (g2 : w 2 = xIA (cA 0) 300 (fun _ => 0)) (g3 : w 3 = xIA (cA 0) 300 (fun _ => 0)) (g4 : w 4 = xIA (cA 0) 300 (fun _ => 0)) (g5 : w 5 = xIA (cA 0) 300 (fun _ => 0)) (g6 : w 6 = xIA (cA 0) 300 (fun _ => 0)) (g7 : w 7 = xIA (cA 0) 300 (fun _ => 0)) (g8 : w 8 = xIA (cA 0) 300 (fun _ => 0)) (g9 : w 9 = xIA (cA 0) 1800 (fun _ => 0)) (g11 : w 11 = xIA (cA 0) 300 (fun _ => 0)) (g12 : w 12 = ruO ad 0) (g13 : w 13 = xIA (cA 0) 16 (fun _ => 0)) (g14 : w 14 = xIA (cA 0) 16 (fun _ => 0)) (g15 : w 15 = xIA (cA 0) 16 (fun _ => 0)) (g16 : w 16 = xIA (cA 1) 16 (fun _ => 0)) (g17 : w 17 = xIA (cA 1) 16 (fun _ => 0)) (g19 : w 19 = rnO ad 0 0 0 0 false) (g20 : w 20 = xIA (cA 1) 16 (fun _ => 0)) (g21 : w 21 = xIA (cA 0) 300 (fun _ => 0)) (g22 : w 22 = xIA (cA 0) 6 (fun _ => 0)) (g23 : w 23 = xIA (cA 0) 30 (fun _ => 0)) (g24 : w 24 = xIA (cA 1) 30 (fun _ => 0)) (g25 : w 25 = roO ad 25 0) (g26 : w 26 = xIA (cA 0) 800 (fun _ => 0)) (g27 : w 27 = roO ad 27 0) (g28 : w 28 = xIA (cA 0) 800 (fun _ => 0)) {f10 : Nat → Int} (g10 : w 10 = xIA (cA 0) 512 f10) (g10v : ∀ j, j < 512 → f10 j = -1) (g10w : ∀ j, 512 ≤ j → f10 j = 0) {f18 : Nat → Int} (g18 : w 18 = xIA (cA 0) 10 f18) (g18v : ∀ j, j < 10 → f18 j = 2) (g18w : ∀ j, 10 ≤ j → f18 j = 0) (m29 : w 29 = mdO ad 0 0 0 0 0 0 0 false false false) (m30 : w 30 = xIA (cA 0) 300 (fun _ => 0)) (m31 : w 31 = xIA (cA 0) 300 (fun _ => 0)) (m32 : w 32 = xIA (cA 0) 300 (fun _ => 0)) (m33 : w 33 = xIA (cA 0) 300 (fun _ => 0)) (m34 : w 34 = xIA (cA 0) 300 (fun _ => 0)) (m35 : w 35 = xIA (cA 0) 300 (fun _ => 0)) (m36 : w 36 = xIA (cA 0) 300 (fun _ => 0)) (m37 : w 37 = xIA (cA 0) 16 (fun _ => 0)) (m38 : w 38 = xIA (cA 0) 16 (fun _ => 0)) (m39 : w 39 = xIA (cA 0) 16 (fun _ => 0)) (m40 : w 40 = xIA (cA 1) 16 (fun _ => 0)) (m42 : w 42 = xIA (cA 0) 800 (fun _ => 0)) (m43 : w 43 = xIA (cA 0) 800 (fun _ => 0)) (m44 : w 44 = xIA (cA 0) 1001 (fun _ => 0)) (m45 : w 45 = xIA (cA 0) 1001 (fun _ => 0)) (m46 : w 46 = xIA (cA 0) 1001 (fun _ => 0)) (m47 : w 47 = xIA (cA 0) 1100 (fun _ => 0)) (m48 : w 48 = xIA (cA 0) 6 (fun _ => 0)) (m49 : w 49 = xIA (cA 0) 1100 (fun _ => 0)) (m50 : w 50 = xIA (cA 0) 6 (fun _ => 0)) (m51 : w 51 = xIA (cA 0) 6 (fun _ => 0)) (m52 : w 52 = xIA (cA 1) 1001 (fun _ => 0)) (m53 : w 53 = xIA (cA 0) 1002 (fun _ => 0)) (m54 : w 54 = xIA (cA 1) 16 (fun _ => 0)) {f41 : Nat → Int} (m41 : w 41 = xIA (cA 0) 10 f41) (m41v : ∀ j, j < 10 → f41 j = 2) (m41w : ∀ j, 10 ≤ j → f41 j = 0) {g : Nat → Int64} (h55 : w 55 = xLA (cA 2) 1 g) : JI ad cA w := by
  have e9 : f41 = f18 := funext fun j => by
    by_cases h : j < 10
    · rw [m41v j h, g18v j h]
    · rw [m41w j (by omega), g18w j (by omega)]
  subst e9
  have hnw : ∀ j, -1 ≤ f10 j ∧ f10 j < 300 := fun j => by
    by_cases h : j < 512
    · rw [g10v j h]; decide
    · rw [g10w j (by omega)]; decide
  have han : ∀ j, 0 ≤ f41 j ∧ f41 j ≤ 2 := fun j => by
    by_cases h : j < 10
    · rw [m41v j h]; decide
    · rw [m41w j (by omega)]; decide
  have hTC : TC xS0 (fun _ => 0) (fun _ => 0) (fun _ => 0) (fun _ => 0) (fun _ => 0) (fun _ => 0) (fun _ => 0) (fun _ => 0) f10 (fun _ => 0) := ⟨fun j hj => absurd hj (Nat.not_lt_zero j), fun j h hj => absurd hj (Nat.not_lt_zero j), fun j => ⟨by dsimp only; decide, by dsimp only; decide, by dsimp only; decide, by dsimp only; decide, by dsimp only; decide, by dsimp only; decide, by dsimp only; decide, by dsimp only; decide, hnw j, by dsimp only; decide⟩, fun q hq => Or.inl ⟨g10v q hq, fun i hi => absurd hi (Nat.not_lt_zero i)⟩, fun j hj => absurd hj (Nat.not_lt_zero j)⟩
  have hCT : CT ad cA w xS0 := ⟨_, _, _, _, _, _, _, _, f10, _, g1, g2, g3, g4, g5, g6, g7, g8, g9, g10, g11, hTC⟩
  have hRS : RSC ad cA w := ⟨⟨0, 0, 0, 0, false, g19⟩, ⟨_, g20⟩, ⟨_, g21⟩, ⟨_, g22, fun h => by decide⟩, ⟨_, g23⟩, ⟨_, g24⟩⟩
  have hMA : MA xS0 (fun _ => 0) (fun _ => 0) (fun _ => 0) (fun _ => 0) (fun _ => 0) (fun _ => 0) (fun _ => 0) := ⟨fun j hj => absurd hj (Nat.not_lt_zero j), fun j => ⟨by dsimp only; decide, by dsimp only; decide, by dsimp only; decide, by dsimp only; decide, by dsimp only; decide, by dsimp only; decide, by dsimp only; decide⟩⟩
  have hMT : MT ad cA w xS0 ((0 : Nat) : Int) 0 0 0 0 0 false false false := ⟨_, _, _, _, _, _, _, m29, m30, m31, m32, m33, m34, m35, m36, hMA⟩
  have hMS : MSC cA w := ⟨⟨⟨_, m46⟩, ⟨_, m47⟩, ⟨_, m50⟩, ⟨_, m51⟩⟩, ⟨⟨_, m44⟩, ⟨_, m45⟩, ⟨_, m46⟩, ⟨_, m47⟩, ⟨_, m48⟩, ⟨_, m49⟩, ⟨_, m52⟩, ⟨_, m53⟩⟩, ⟨_, m54⟩, ⟨_, m43⟩⟩
  have hTb : Tb xS0 := ⟨by decide, fun j hj => absurd hj (Nat.not_lt_zero j), fun i j hi => absurd hi (Nat.not_lt_zero i)⟩
  have hPJ : PJ xS0 0 (fun _ => 0) (fun _ => 0) (fun _ => 0) (fun _ => 0) (fun _ => 0) f41 0 (fun _ => 0) (fun _ => 0) := ⟨hTb, by decide, fun r hr => absurd hr (Nat.not_lt_zero r), fun r hr => absurd hr (Nat.not_lt_zero r), fun j => by dsimp only; decide, fun j => Or.inl rfl, fun j => Or.inl rfl, han, by decide, fun j hj => rfl, fun i hi => by dsimp only; decide⟩
  have hCJ : CJ ad cA w xS0 0 (fun _ => 0) (fun _ => 0) (fun _ => 0) (fun _ => 0) (fun _ => 0) f41 25 27 0 false 0 (fun _ => 0) := ⟨g0, Or.inl ⟨rfl, rfl⟩, hCT, hRS, g12, g13, g14, g15, g16, g17, g18, g25, g26, 0, _, g27, g28⟩
  exact ⟨xS0, 0, _, _, _, _, _, f41, 25, 27, 0, false, 0, _, _, 0, 0, 0, false, false, g, hCJ, hMT, hMS, ⟨m37, m38, m39, m40, m41, m42⟩, hPJ, h55⟩
/-! THE CLAIM OUT OF ONE WALK OF THE LAW'S BODY. Your part is whole_start (and what it stands on); all else here is the same for every law, but numbers. -/
def R_law : String := "RuleStepsLaw"
def lw_P (b : Addr) (xs : List Int32) (args : Array Value) (s : State) : Prop := args = #[.ref b] ∧ s.IntsAt b xs ∧ xs.length ≤ 2048 ∧ (Jvm.Cond.and given_1 narrow_1).before args s = true
def lw_Q (_ : Array Value) (s : State) (o : Outcome) (t : State) : Prop := o = .returned (some (.int 1)) ∧ Framed s o t [] 601024 7293034
def lw_Z (below : List Frame) (a : Array Value) (s : State) : State → Prop := fun t => ∃ o, t.status = .running ∧ Ended t below o ∧ lw_Q a s o t
/-- the law's own end, with 1 on the stack, nothing written that was there before, its room as the claim has it -/
theorem lw_ret {p : Program} {l : Launch} {e : Env} {s : State} {m : MethodId} {below : List Frame} {meth : Method} {c : Code} {b : Nat} (hx : p.tables.exec = Jvm.exec) (hb : c.code = code) (hr : meth.sig.returnType = ret) (hlocks : meth.locks = false) {pc : Nat} {H : Heap} {ls : Array Slot} (hdg : decode code pc = .ok (.ireturn, 1)) : W p l e room_1 s m #[Value.ref b] below meth c H [] 601024 7293034 (lw_Z below #[Value.ref b] s) (F0 m pc ls [.int 1]) := by
  intro T hT X
  obtain ⟨fs, hret, hrun, hended, hW, hframe⟩ := X.leave (v := some (.int 1)) (hlocks := hlocks) (fun h => by rw [hr] at h; cases h)
  have hmeth' : T.vm.method? m = some meth := X.method'
  refine ⟨T.setFrames fs, ?_, .returned (some (.int 1)), hrun, hended, rfl, ⟨_, rfl⟩, hW, hframe⟩
  jvm_step X.here [X.here.top, hx, hb, hdg, hmeth', hr, ret, narrow_b1]
  (try refine ⟨rfl, ?_⟩); (try refine ⟨rfl, ?_⟩)
  first | (intro acts; rw [hret _ acts rfl rfl rfl]) | rw [hret _ _ rfl rfl rfl]
  exact Steps.refl _
/-- what holds at the law's entry: the machine, the code, the tables' words (any of lw_tbl by 'hts w (by decide +kernel)'), the script of L ints xs at the cell b, what the Statement gives of the start (any of its parts by flat_of_before) -/
def lw_At (p : Program) (s : State) (m : MethodId) (meth : Method) (c : Code) (b L : Nat) (xs : Nat → Int32) : Prop :=
  p.tables.exec = Jvm.exec ∧ c.code = code ∧ meth.sig.returnType = ret ∧ c.maxLocals = 7 ∧ s.vm.findClass R_law = some m.cls ∧ (∀ w ∈ lw_tbl, w.before #[Value.ref b] s = true) ∧ va_X b L xs s s.heap ∧ b < s.heap.size ∧ meth.locks = false ∧ (Jvm.Cond.and given_1 narrow_1).before #[Value.ref b] s = true
theorem lw_mem {w : Cond} (i : Nat) (h : tables_1[i]? = some w) : w ∈ lw_tbl := List.mem_append_right _ (List.mem_of_getElem? h)
theorem xstr_in : ∀ q ∈ xStr, Cond.stringRef R_RS q.1 q.2 ∈ tables_1 := by decide +kernel
theorem xes_in : ∀ q ∈ xEs, Cond.castable q q ∈ tables_1 := by decide +kernel
theorem xsup_in : ∀ q ∈ xSup, Cond.declares ⟨q, "<init>", "(Ljava/lang/String;)V"⟩ ∈ tables_1 := by decide +kernel
theorem xnc_in : ∀ q ∈ xNc, Cond.not (.castable q.1 q.2) ∈ flatC (Jvm.Cond.and given_1 narrow_1) := by decide +kernel
theorem mdO_ad {ad ad' : Nat → Nat} {a b c d e f g : Int} {p q r : Bool} (h : ∀ k, k < 55 → ad' k = ad k) : mdO ad a b c d e f g p q r = mdO ad' a b c d e f g p q r := by simp only [mdO, h 30 (by decide), h 31 (by decide), h 32 (by decide), h 33 (by decide), h 34 (by decide), h 35 (by decide), h 36 (by decide), h 37 (by decide), h 38 (by decide), h 39 (by decide), h 40 (by decide), h 41 (by decide), h 42 (by decide), h 43 (by decide), h 44 (by decide), h 45 (by decide), h 46 (by decide), h 47 (by decide), h 48 (by decide), h 49 (by decide), h 50 (by decide), h 51 (by decide), h 52 (by decide), h 53 (by decide), h 54 (by decide)]
/-- what a throw needs of the start -/
theorem xgl_of {s : State} {b : Nat} {cR : ClassId} (hcR : s.vm.findClass R_RS = some cR) (hts : ∀ w ∈ lw_tbl, w.before #[Value.ref b] s = true) (hgv : (Jvm.Cond.and given_1 narrow_1).before #[Value.ref b] s = true) : XGl s.heap.size s := by
  have hs := flat_of_before _ hgv
  have hT : ∀ w ∈ tables_1, w.before #[Value.ref b] s = true := fun w hw => hts w (List.mem_append_right _ hw)
  have hA : ∀ a : Nat, a < s.heap.size → ¬ xA s.heap.size a := fun a h => Nat.not_le.mpr h
  have hi : (Cond.initialized Bundle.tN).before #[Value.ref b] s = true := hT _ (List.mem_of_getElem? (i := 8) (by decide +kernel))
  refine ⟨vx_Zqof (hT _ (List.mem_of_getElem? (i := 256) (by decide +kernel))) hi (hs _ (by decide +kernel)) hA, vx_Zqof (hT _ (List.mem_of_getElem? (i := 258) (by decide +kernel))) hi (hs _ (by decide +kernel)) hA, fun q hq => ?_, va_Nw.of rfl (hT _ (List.mem_of_getElem? (i := 165) (by decide +kernel))), fun q hq => va_Nc.of (hs _ (xnc_in q hq)), fun q hq => va_Nw.of rfl (hT _ (xes_in q hq)), fun q hq => va_Nw.of rfl (hT _ (xsup_in q hq))⟩
  obtain ⟨k, cf, i, a, -, -, -, -, -, hev⟩ := Cond.stringRef_spec hcR (hT _ (xstr_in q hq))
  exact ⟨a, vk_R.of (hT _ (xstr_in q hq)) hev⟩
theorem arr_of {s : State} {b : Nat} {ty : FieldType} (h : (Cond.arrayClass ty).before #[Value.ref b] s = true) : ∃ c : ClassId, ArrOfT s c ty ∧ s.vm.findClass ("[" ++ ty.toString) = some c := by
  obtain ⟨c, kA, comp, h1, h2, h3⟩ := Cond.arrayClass_spec h
  exact ⟨c, fun n z => ⟨fun k h => (by cases h), kA, h2, comp, h3⟩, h1⟩
set_option maxHeartbeats 4000000 in
set_option maxRecDepth 100000 in
/-- from the law's first instruction to its loop -/
theorem law_go {G : xG} {L : Launch} {D : va_G} {cA : Nat → ClassId} {base : Nat} {b9 L9 : Nat} {xs : Nat → Int32} (C : XC G L D cA base c_La_law 7 R_La room_1) (S9 : XSc G b9 L9 xs) (hLt : L.stackTraces = false) (hL : L9 ≤ 2048) (hEnd : ∀ (n : Nat) (ad : Nat → Nat) (w : Nat → va_E) (a b : Nat) (lv : Nat → Option Value), a ≤ 601024 → b ≤ 7293034 → XW G n ad w a b 1301 lv [.int (zI 1)]) : XW G 0 (fun _ => 0) (fun _ => xOb 0 []) 0 0 0 (fun i => [Value.ref b9][i]?) [] := by
  refine xr_new (ci := 4) (fs := [.null, .null, .null, .null, .null, .int (zI 0), .int (zI 0)]) C rfl xin_RS tk_RS ⟨xw_mem 15 (by decide +kernel) (by decide +kernel), xw_mem 16 (by decide +kernel) (by decide +kernel), xw_mem 1 (by decide +kernel) (by decide +kernel)⟩ (fun j hj => by rcases (show j = 0 ∨ j = 1 ∨ j = 2 ∨ j = 3 ∨ j = 4 ∨ j = 5 ∨ j = 6 by omega) with rfl | rfl | rfl | rfl | rfl | rfl | rfl <;> rfl) (by decide) d_La_law_0 (fun q0 => ?_)
  refine xr_dup C rfl d_La_law_3 ?_
  refine xr_callI (k9 := 0) (As := []) (st := [.ref q0]) C (m_RS_init rfl) xm_La_69 x2_RS_init (by decide) (by decide) (Nat.le_of_ble_eq_true rfl) rfl d_La_law_4 (fun v n9 ad1 w1 hp => ?_)
  obtain ⟨rfl, rfl, z0, g0, g1, g2, g3, g4, g5, g6, g7, g8, g9, g11, g12, g13, g14, g15, g16, g17, g19, g20, g21, g22, g23, g24, g25, g26, g27, g28, ⟨f10, g10, g10v, g10w⟩, ⟨f18, g18, g18v, g18w⟩⟩ := hp
  have hq0 : q0 = ad1 0 := z0.symm
  show XW G 29 ad1 w1 29 6825 7 _ [.ref q0]
  rw [hq0]
  refine xr_astore_n C 1 d_La_law_7 rfl (by decide) ?_
  refine xr_new (ci := 5) (fs := [.int (zI 0), .null, .null, .null, .null, .null, .null, .null, .int (zI 0), .null, .null, .null, .null, .null, .int (zI 0), .int (zI 0), .null, .int (zI 0), .int (zI 0), .null, .int (zI 0), .int (zI 0), .int (zI 0), .null, .null, .null, .null, .null, .null, .null, .null, .null, .null, .null, .int (zI 0)]) C rfl xin_Md tk_Md ⟨xw_mem 580 (by decide +kernel) (by decide +kernel), xw_mem 581 (by decide +kernel) (by decide +kernel), xw_mem 7 (by decide +kernel) (by decide +kernel)⟩ (fun j hj => by rcases (show j = 0 ∨ j = 1 ∨ j = 2 ∨ j = 3 ∨ j = 4 ∨ j = 5 ∨ j = 6 ∨ j = 7 ∨ j = 8 ∨ j = 9 ∨ j = 10 ∨ j = 11 ∨ j = 12 ∨ j = 13 ∨ j = 14 ∨ j = 15 ∨ j = 16 ∨ j = 17 ∨ j = 18 ∨ j = 19 ∨ j = 20 ∨ j = 21 ∨ j = 22 ∨ j = 23 ∨ j = 24 ∨ j = 25 ∨ j = 26 ∨ j = 27 ∨ j = 28 ∨ j = 29 ∨ j = 30 ∨ j = 31 ∨ j = 32 ∨ j = 33 ∨ j = 34 by omega) with rfl | rfl | rfl | rfl | rfl | rfl | rfl | rfl | rfl | rfl | rfl | rfl | rfl | rfl | rfl | rfl | rfl | rfl | rfl | rfl | rfl | rfl | rfl | rfl | rfl | rfl | rfl | rfl | rfl | rfl | rfl | rfl | rfl | rfl | rfl <;> rfl) (by decide) d_La_law_8 (fun q29 => ?_)
  refine xr_dup C rfl d_La_law_11 ?_
  refine xr_callI (k9 := 29) (As := []) (st := [.ref q29]) C (m_Md_init rfl) xm_La_72 x2_Md_init (by decide) (by decide) (Nat.le_of_ble_eq_true rfl) rfl d_La_law_12 (fun v n9 ad2 w2 hp => ?_)
  obtain ⟨rfl, rfl, ha2, hf2, m29, m30, m31, m32, m33, m34, m35, m36, m37, m38, m39, m40, m42, m43, m44, m45, m46, m47, m48, m49, m50, m51, m52, m53, m54, f41, m41, m41v, m41w⟩ := hp
  have hq29 : q29 = ad2 29 := (ha2 29 (by decide)).symm
  show XW G 55 ad2 w2 55 17874 15 _ [.ref q29]
  rw [hq29]
  refine xr_astore_n C 2 d_La_law_15 rfl (by decide) ?_
  refine xr_iconst C d_La_law_16 ?_
  refine xz_newl C xw_aL (by decide) (by decide) d_La_law_17 (fun q55 => ?_)
  refine xr_astore_n C 3 d_La_law_19 rfl (by decide) ?_
  refine xr_iconst C d_La_law_20 ?_
  refine xr_istore C d_La_law_21 (by decide) ?_
  show XW G 56 (va_up ad2 55 q55) (va_up w2 55 (xLA (cA 2) 1 (fun _ => 0))) 56 17875 23 _ []
  have c2 : ∀ k, k < 55 → va_up ad2 55 q55 k = ad2 k := fun k hk => va_ne (by omega)
  have c1 : ∀ k, k < 29 → va_up ad2 55 q55 k = ad1 k := fun k hk => (c2 k (by omega)).trans ((ha2 k (by omega)).trans (va_ne (by omega)))
  have hJ : JI (va_up ad2 55 q55) cA (va_up w2 55 (xLA (cA 2) 1 (fun _ => 0))) := ji_init ((hf2 0 (by decide)).trans (g0.trans (rsO_ad c1))) ((hf2 1 (by decide)).trans (g1.trans (trO_ad (fun k hk => c1 k (by omega))))) ((hf2 2 (by decide)).trans (g2)) ((hf2 3 (by decide)).trans (g3)) ((hf2 4 (by decide)).trans (g4)) ((hf2 5 (by decide)).trans (g5)) ((hf2 6 (by decide)).trans (g6)) ((hf2 7 (by decide)).trans (g7)) ((hf2 8 (by decide)).trans (g8)) ((hf2 9 (by decide)).trans (g9)) ((hf2 11 (by decide)).trans (g11)) ((hf2 12 (by decide)).trans (g12.trans (ruO_ad (fun k hk => c1 k (by omega))))) ((hf2 13 (by decide)).trans (g13)) ((hf2 14 (by decide)).trans (g14)) ((hf2 15 (by decide)).trans (g15)) ((hf2 16 (by decide)).trans (g16)) ((hf2 17 (by decide)).trans (g17)) ((hf2 19 (by decide)).trans (g19.trans (rnO_ad (fun k hk => c1 k (by omega))))) ((hf2 20 (by decide)).trans (g20)) ((hf2 21 (by decide)).trans (g21)) ((hf2 22 (by decide)).trans (g22)) ((hf2 23 (by decide)).trans (g23)) ((hf2 24 (by decide)).trans (g24)) ((hf2 25 (by decide)).trans (g25.trans (roO_ad (c1 26 (by decide))))) ((hf2 26 (by decide)).trans (g26)) ((hf2 27 (by decide)).trans (g27.trans (roO_ad (c1 28 (by decide))))) ((hf2 28 (by decide)).trans (g28)) ((hf2 10 (by decide)).trans (g10)) g10v g10w ((hf2 18 (by decide)).trans (g18)) g18v g18w (m29.trans (mdO_ad c2)) m30 m31 m32 m33 m34 m35 m36 m37 m38 m39 m40 m42 m43 m44 m45 m46 m47 m48 m49 m50 m51 m52 m53 m54 m41 m41v m41w rfl
  exact law_lp C hLt S9 hL hEnd 512 0 56 17875 _ _ (by omega) (by decide) (by decide) (by decide) (by decide) hJ rfl (by rw [c1 0 (by decide)]; rfl) (by rw [c2 29 (by decide)]; rfl) (by rw [va_eq]; rfl) rfl
set_option maxHeartbeats 4000000 in
set_option maxRecDepth 100000 in
theorem whole_start {p : Program} {e : Env} {s : State} {m : MethodId} {below : List Frame} {meth : Method} {c : Code} (l : Launch) (hLt : l.stackTraces = false) {b L : Nat} {xs : Nat → Int32} (hL : L ≤ 2048) (C0 : lw_At p s m meth c b L xs) : W p l e room_1 s m #[Value.ref b] below meth c s.heap [] 0 0 (lw_Z below #[Value.ref b] s) (entryFrame m ([Value.ref b] : List Value).toArray 7) := by
  obtain ⟨hx, hb, hr, hml, hown, hts, hX, hbl, hlocks, hgv⟩ := id C0
  have htx : ∀ w ∈ xTs, w.before #[Value.ref b] s = true := fun w hw => hts w (List.mem_filter.mp hw).1
  obtain ⟨c0, i0, hK0⟩ := u_known (C := R_Ro) (T := T_Ro) (N := 2) (n := 2) htx xin_Ro (htx _ (xw_mem 164 (by decide +kernel) (by decide +kernel)))
  obtain ⟨c1, i1, hK1⟩ := u_known (C := R_Ru) (T := T_Ru) (N := 7) (n := 7) htx xin_Ru (htx _ (xw_mem 80 (by decide +kernel) (by decide +kernel)))
  obtain ⟨c2, i2, hK2⟩ := u_known (C := R_Rn) (T := T_Rn) (N := 12) (n := 12) htx xin_Rn (htx _ (xw_mem 119 (by decide +kernel) (by decide +kernel)))
  obtain ⟨c3, i3, hK3⟩ := u_known (C := R_Tr) (T := T_Tr) (N := 11) (n := 11) htx xin_Tr (htx _ (xw_mem 24 (by decide +kernel) (by decide +kernel)))
  obtain ⟨c4, i4, hK4⟩ := u_known (C := R_RS) (T := T_RS) (N := 7) (n := 7) htx xin_RS (htx _ (xw_mem 16 (by decide +kernel) (by decide +kernel)))
  obtain ⟨c5, i5, hK5⟩ := u_known (C := R_Md) (T := T_Md) (N := 35) (n := 35) htx xin_Md (htx _ (xw_mem 581 (by decide +kernel) (by decide +kernel)))
  obtain ⟨dC, dI, hKc⟩ : ∃ (dC : Nat → ClassId) (dI : Nat → Nat → Nat), ∀ (k : Nat) (q : vw_C), vwCl[k]? = some q → u_Kn s q.1 q.2.1 q.2.2 (dC k) (dI k) := by
    refine ⟨fun k => if k = 0 then c0 else if k = 1 then c1 else if k = 2 then c2 else if k = 3 then c3 else if k = 4 then c4 else c5, fun k => if k = 0 then i0 else if k = 1 then i1 else if k = 2 then i2 else if k = 3 then i3 else if k = 4 then i4 else i5, ?_⟩
    intro k q hq
    match k, hq with
    | 0, hq => cases hq; exact hK0
    | 1, hq => cases hq; exact hK1
    | 2, hq => cases hq; exact hK2
    | 3, hq => cases hq; exact hK3
    | 4, hq => cases hq; exact hK4
    | 5, hq => cases hq; exact hK5
    | k + 6, hq => simp [vwCl] at hq
  obtain ⟨aI, hI1, hI2⟩ := arr_of (htx _ xw_aI)
  obtain ⟨aZ, hZ1, hZ2⟩ := arr_of (htx _ xw_aZ)
  obtain ⟨aJ, hJ1, hJ2⟩ := arr_of (htx _ xw_aL)
  obtain ⟨cA, hA0, hA1, hA2⟩ : ∃ cA : Nat → ClassId, cA 0 = aI ∧ cA 1 = aZ ∧ cA 2 = aJ := ⟨fun k => if k = 0 then aI else if k = 1 then aZ else aJ, rfl, rfl, rfl⟩
  have hK : va_K (dC, dI) vwCl (xtys cA) s := ⟨hKc, fun k q hq => by
    match k, hq with
    | 0, hq => cases hq; rw [hA0]; exact ⟨hI1, hI2⟩
    | 1, hq => cases hq; rw [hA1]; exact ⟨hZ1, hZ2⟩
    | 2, hq => cases hq; rw [hA2]; exact ⟨hJ1, hJ2⟩
    | k + 3, hq => simp [xtys] at hq⟩
  have hgl : XGl s.heap.size s := xgl_of hK4.2.1 hts hgv
  have hEnd : ∀ (n : Nat) (ad : Nat → Nat) (w : Nat → va_E) (a b9 : Nat) (lv : Nat → Option Value), a ≤ 601024 → b9 ≤ 7293034 → XW (p, l, e, room_1, s, m, #[Value.ref b], below, meth, c, lw_Z below #[Value.ref b] s, 7, (dC, dI), s.heap.size) n ad w a b9 1301 lv [.int (zI 1)] := by
    intro n ad w a b9 lv h1 h2
    intro H locs ls hP hD hS hl
    exact W.widen h1 h2 (va_forget hS.2.2 (lw_ret hx hb hr hlocks d_La_law_1301))
  have C : XC (p, l, e, room_1, s, m, #[Value.ref b], below, meth, c, lw_Z below #[Value.ref b] s, 7, (dC, dI), s.heap.size) l (dC, dI) cA s.heap.size c_La_law 7 R_La room_1 := ⟨rfl, rfl, rfl, rfl, rfl, hx, hb, hml, hown, htx, hK, hlocks, Nat.le_refl _, hgl⟩
  have S9 : XSc (p, l, e, room_1, s, m, #[Value.ref b], below, meth, c, lw_Z below #[Value.ref b] s, 7, (dC, dI), s.heap.size) b L xs := ⟨hX, hbl, Nat.not_le.mpr hbl⟩
  have hl := lv_entry [Value.ref b] (n := 7) (Nat.le_of_ble_eq_true rfl)
  rw [lg_entry_eq]
  refine law_go C S9 hLt hL hEnd s.heap [] _ (fun k q h => ?_) ⟨fun i j p q h => ?_, fun k q h => ?_⟩ va_S.rf (xlv_args (by simp [Value.category]) hl)
  · simp [xws] at h
  · simp [xws] at h
  · simp [xws] at h
set_option maxHeartbeats 4000000 in
theorem lw_walk (l : Launch) (hLt : l.stackTraces = false) (b : Addr) (xs : List Int32) : MetFree l x (headSpec (Jvm.Cond.code x code maxLocals ret :: tables_1) room_1) (lw_P b xs) (fun _ _ _ _ _ => True) lw_Q := by
  refine MetFree.of_bodyS (code := code) (maxLocals := maxLocals) (ret := ret) (by decide) ?_ ?_
  · intro args s m h hn
    obtain ⟨meth, c, h1, h2, h3, h4, h5, h6, -, -⟩ := Cond.code_spec hn (atoms_spec (ws := Jvm.Cond.code x code maxLocals ret :: tables_1) h _ List.mem_cons_self)
    exact ⟨meth, c, h1, h2, h3, h4, h5, h6⟩
  · intro p e s m args below meth c s₁ B hml0 hP _
    obtain ⟨rfl, hx, hbd, hgv⟩ := hP
    obtain ⟨scr, harrAt, hlist, hof, hsmall⟩ := hx
    obtain ⟨hcb, hkn, -, -⟩ := State.arrayAt?_spec harrAt
    have hown : s.vm.findClass R_law = some m.cls := findClass_of_methodNamed B.named
    have hts0 : ∀ c ∈ (Jvm.Cond.code x code maxLocals ret :: tables_1), c.before #[Value.ref b] s = true := atoms_spec (ws := Jvm.Cond.code x code maxLocals ret :: tables_1) B.pre
    have hts : ∀ w ∈ lw_tbl, w.before #[Value.ref b] s = true := k2_hts_sels lw_privs (fun w hw => hts0 w (List.mem_cons_of_mem _ hw)) lw_privs_ok
    have hml : c.maxLocals = 7 := B.maxLocals_eq (hts0 _ List.mem_cons_self)
    have X₀ : Stand p l e room_1 s m #[Value.ref b] below meth c s₁ [] 0 0 := Stand.of_body B
    have hh0 : s₁.heap = s.heap := by rw [B.state]; rfl
    have hsz : scr.slots.size = xs.length := by rw [← Array.length_toList, hlist, List.length_map]
    have hval : ∀ j : Nat, j < xs.length → scr.slots[j]? = some (.int (xs.getD j 0)) := fun j hj => by
      rw [← Array.getElem?_toList, hlist]
      simp [hj]
    have hbl : b < s.heap.size := (Array.getElem?_eq_some_iff.mp hcb).1
    have hX : va_X b xs.length (fun j => xs.getD j 0) s s.heap := ⟨scr, hcb, hof, hkn, hsz, hval⟩
    have K : W p l e room_1 s m #[Value.ref b] below meth c s₁.heap [] 0 0 (lw_Z below #[Value.ref b] s) (entryFrame m ([Value.ref b] : List Value).toArray 7) := by
      rw [hh0]
      exact whole_start l hLt hbd ⟨B.exec, B.bytes, B.returns, hml, hown, hts, hX, hbl, B.notSynchronized, hgv⟩
    obtain ⟨t, a1, o, b1, b2, b3⟩ := K s₁ rfl X₀
    exact ⟨t, o, a1, b1, b2, b3⟩
theorem lw_pre_spec {args : Array Value} {s : State} (h : (Jvm.Cond.and given_1 narrow_1).before args s = true) (hr : rest_1_c.before args s = true) : ∃ (b : Addr) (xs : List Int32), lw_P b xs args s := by
  have hs := flat_of_before _ h
  have hq := flat_of_before _ hr
  have hc : (Cond.count 1).before args s = true := hs _ (by decide +kernel)
  have harr : (Cond.arrayOf (.arg 0) .int).before args s = true := hs _ (by decide +kernel)
  have hle : (Cond.le (.length (.arg 0)) (.int 2048)).before args s = true := hs _ (by decide +kernel)
  have hlen : (Cond.isInt (.length (.arg 0))).before args s = true := hq _ (by decide +kernel)
  have hall : (Cond.all (.arg 0) (.isInt (.elem (.arg 0) (.index 0)))).before args s = true := hq _ (by decide +kernel)
  obtain ⟨b, xs, hb, hx⟩ := State.ints_of_pre rfl harr hlen hall
  have hsm : xs.length < 2 ^ 31 := hx.choose_spec.2.2.2
  have hev : (Term.length (.arg 0)).eval args s none [] s = some (.int xs.length.toInt32) := hx.length_eval hb
  have hv := Cond.le_ints hev (show (Term.int 2048).eval args s none [] s = some (.int 2048) from rfl)
  have hd : xs.length.toInt32 ≤ 2048 := by
    simpa [Cond.before, Cond.holds, hv] using hle
  have hN : xs.length ≤ 2048 := (Int32.ofNat_le_ofNat hsm (by decide)).mp (show Int32.ofNat xs.length ≤ Int32.ofNat 2048 from hd)
  exact ⟨b, xs, Cond.one_arg hc (show args[0]? = some (.ref b) from hb), hx, hN, h⟩
theorem lw_comes (l : Launch) (hLt : l.stackTraces = false) : Comes l x (Jvm.Cond.code x code maxLocals ret :: tables_1) room_1 (fun tb e args s => Calls_1 tb e args s ∧ rest_1 tb e args s ∧ Pre_1 tb e args s)
    (fun _ _ args s o t => lw_Q args s o t) := by
  intro p e ha hc hk s m args below hf hfit hheap happ hpre
  obtain ⟨b, xs, hP⟩ := lw_pre_spec hpre.2.2 hpre.2.1
  obtain ⟨k, o, h1, h2, h3, hQ⟩ := lw_walk l hLt b xs p e ha hc hk s m args below hf ((Spec.applies_iff_loose hf).mp happ).1 hP trivial
  exact ⟨k, o, h1, h2, h3, hQ⟩
theorem lw_frame {s t : State} {o : Outcome} {args : Array Value} (h : Framed s o t [] 601024 7293034) :
    Framed s o t (fieldLocs frame_1_writes args s ++ arrayLocs frame_1_arrays args s ++ staticLocs frame_1_statics s) 601024 7293034 := h
theorem lw_limb (L : Cond) (hL : ∀ (args : Array Value) (s t : State), L.after args s (.returned (some (.int 1))) t = true) :
    ArmFor flags0 classFile x code maxLocals ret World_1 tables_1 room_1 Calls_1 rest_1 Pre_1
      (fun tb e a s o t => postC L tb e a s o t ∧ Framed s o t (fieldLocs frame_1_writes a s ++ arrayLocs frame_1_arrays a s ++ staticLocs frame_1_statics s) 601024 7293034) := by
  intro l hfl _ _ p e ha hc hk s m args below hf hfit hheap happ hpre
  obtain ⟨k, o, h1, h2, h3, rfl, hF⟩ := lw_comes l (by unfold Jvm.Launch.stackTraces; rw [hfl]; decide) p e ha hc hk s m args below hf hfit hheap happ hpre
  exact ⟨k, _, h1, h2, h3, hL args s _, lw_frame hF⟩
theorem i_vc : Claimed_1_1 ∧ Claimed_1_2 := ⟨lw_limb limb_1_1 (fun args s t => by simp [limb_1_1, Cond.after, Cond.holds, Cond.value]), lw_limb limb_1_2 (fun args s t => Cond.after_iff.mpr (by
  first | (rw [show limb_1_2 = Cond.eq .result (.int 1) from rfl, Cond.eq_ints (x := 1) (y := 1) rfl rfl]; simp; done) | (simp [limb_1_2, Cond.value, Term.eval]; done)))⟩
