/-! places of a tree -/
theorem lyS_len {S : xS} (hT : Tb S) {j : Nat} (hj : j < sN S) : ((lyS S j).length : Int) = sPl S j := ly_len hT j hj
def atS (S : xS) (t : Nat) (p : Int) : Int := if 0 ≤ p ∧ p < sPl S t then (((lyS S t).getD p.toNat 0 : Nat) : Int) else -1
theorem atS_in {S : xS} {t : Nat} {p : Int} {y : Nat} (hT : Tb S) (ht : t < sN S) (hp : 0 ≤ p) (h : (lyS S t)[p.toNat]? = some y) : atS S t p = (y : Int) := by
  have h1 := (List.getElem?_eq_some_iff.mp h).1
  have h2 : ((lyS S t).length : Int) = sPl S t := ly_len hT t ht
  unfold atS
  rw [if_pos (by omega), List.getD_eq_getElem?_getD, h]
  rfl
/-- the table with its first n trees alone -/
def cut (S : xS) (n : Nat) : xS := (n, S.2)
theorem cut_Tb {S : xS} (hT : Tb S) {n : Nat} (h : n ≤ sN S) : Tb (cut S n) := by
  have h1 := hT.1
  refine ⟨by show n ≤ 300; omega, fun j hj => hT.2.1 j ?_, fun i j hi hj => hT.2.2 i j ?_ ?_⟩
  · have : j < n := hj
    omega
  · have : i < n := hi
    omega
  · have : j < n := hj
    omega
theorem cut_TC {S : xS} {mk fs sn wt pl dp ho hc nw od : Nat → Int} {m : Nat} (h : TC (cut S (m + 1)) mk fs sn wt pl dp ho hc nw od) : TC (cut S m) mk fs sn wt pl dp ho hc (va_up nw (slS S m).toNat (od m)) od := by
  obtain ⟨h1, h2, h3, h4, h5⟩ := h
  have hsl := slot_in (sSg S m) (sFs S m) (sSn S m)
  have e9 : slS S m = slot (sSg S m) (sFs S m) (sSn S m) := rfl
  have lt : ∀ j, j < sN (cut S m) → j < sN (cut S (m + 1)) := fun j hj => by
    have : j < m := hj
    show j < m + 1
    omega
  refine ⟨fun j hj => h1 j (lt j hj), fun j i hj hi => h2 j i (lt j hj) hi, fun j => ?_, fun q hq => ?_, fun j hj => h5 j (lt j hj)⟩
  · obtain ⟨r1, r2, r3, r4, r5, r6, r7, r8, r9, r10⟩ := h3 j
    have r10' := (h3 m).2.2.2.2.2.2.2.2.2
    refine ⟨r1, r2, r3, r4, r5, r6, r7, r8, ?_, r10⟩
    unfold va_up
    split <;> omega
  · show hdS S q m _
    by_cases e : q = (slS S m).toNat
    · rw [e, va_eq]
      have := h5 m (by show m < m + 1; omega)
      rw [show (((slS S m).toNat : Nat) : Int) = slS S m by omega]
      exact this
    · rw [va_ne e]
      have h4q : hdS S q (m + 1) (nw q) := h4 q hq
      rcases h4q with ⟨a, b⟩ | ⟨a, b, c, d⟩
      · exact Or.inl ⟨a, fun i hi => b i (by omega)⟩
      · refine Or.inr ⟨a, ?_, c, fun i g1 g2 => d i g1 (by omega)⟩
        by_cases e2 : nw q = (m : Int)
        · rw [e2, Int.toNat_natCast] at c
          omega
        · omega
/-- holes of a that b lacks, as a mask -/
def nmk (a b : Int) : Int := (zI a &&& (zI b ^^^ zI (-1))).toInt
theorem zI_ti (X : Int32) : zI X.toInt = X := Int32.ofInt_toInt X
theorem zI_nmk (a b : Int) : zI a &&& (zI b ^^^ zI (-1)) = zI (nmk a b) := (zI_ti _).symm
theorem nmk_in (a b : Int) : -2147483648 ≤ nmk a b ∧ nmk a b < 2147483648 := ⟨Int32.le_toInt _, Int32.toInt_lt _⟩
set_option maxHeartbeats 4000000 in
set_option maxRecDepth 100000 in
theorem m_Tr_treeAt {L : Launch} {D : va_G} {cA : Nat → ClassId} {base : Nat} {ad : Nat → Nat} {w : Nat → va_E} {S : xS} (hCT : CT ad cA w S) (hT : Tb S) {t : Nat} (ht : t < sN S) {p0 : Int} (hp0 : -2147483648 ≤ p0 ∧ p0 < 2147483648) : XM L D cA base y_Tr_treeAt c_Tr_treeAt 6 (some .int) (xrm 1 0 0) [.ref (ad 1), .int (zI (t : Int)), .int (zI p0)] 56 ad w (xPure 56 ad w (.int (zI (atS S t p0)))) xF := by
  refine xm_of (by decide +kernel) (by simp [Value.category]) (Nat.le_of_ble_eq_true rfl) (fun G C E _ => ?_)
  obtain ⟨mk, fs, sn, wt, pl, dp, ho, hc, nw, od, hw1, hw2, hw3, hw4, hw5, hw6, hw7, hw8, hw9, hw10, hw11, hC⟩ := hCT
  have hN := hT.1
  have lp : ∀ (y : Nat), atS S t p0 = (y : Int) → ∀ (k x p : Nat) (lv : Nat → Option Value), x < k → x < sN S → (lyS S x)[p]? = some y → lv 0 = some (.ref (ad 1)) → lv 3 = some (.int (zI (x : Int))) → lv 4 = some (.int (zI (p : Int))) → XW G 56 ad w 0 0 21 lv [] := by
    intro y hgoal k
    induction k with
    | zero => intro x p lv h1; exact absurd h1 (by omega)
    | succ k ih =>
      intro x p lv h1 h2 hy hl0 hl3 hl4
      have hpl := (List.getElem?_eq_some_iff.mp hy).1
      obtain ⟨m1, m2, m3, m4, m5, -⟩ := hC.1 x (by omega)
      obtain ⟨sx, -⟩ := hT.2.1 x (by omega)
      have hux := um_eq sx
      have hlx := lyS_len hT (j := x) (by omega)
      have hlx9 := (hT.2.1 x (by omega)).2.2.2.2.2
      refine xr_iload C d_Tr_treeAt_21 hl4 ?_
      refine xz_if_le (tgt := 84) C d_Tr_treeAt_23 (by decide) (by omega) (fun c23 => ?_) (fun c23 => ?_)
      · skip
        refine xr_iload_n C 3 d_Tr_treeAt_84 rfl hl3 ?_
        exact xr_iret C E ⟨rfl, rfl, rfl, by
          rw [hgoal]
          have hy0 : p = 0 := by
            first
            | omega
            | (exfalso
               have : (lyS S x).length = 1 := by
                 unfold shp at sx
                 rw [ly_0 (by omega) (by omega)]
                 rfl
               omega)
          rw [hy0] at hy
          unfold lyS at hy
          rw [ly_eq] at hy
          cases hy
          rfl⟩ (by decide) (by decide) d_Tr_treeAt_85
      · skip
        refine xr_aload_n C 0 d_Tr_treeAt_26 rfl hl0 ?_
        refine xr_iload_n C 3 d_Tr_treeAt_27 rfl hl3 ?_
        refine xr_callV (k9 := 1) C (m_Tr_isNode hw1 hw2 (fun j => (hC.2.2.1 j).1) (x := (x : Int)) (by omega)) xm_Tr_80 x2_Tr_isNode hw1 (by decide) rfl (by decide) (by decide) (Nat.le_of_ble_eq_true rfl) rfl d_Tr_treeAt_28 (fun En n9 ad9 w9 hx9 => hx9.elim) (fun v n9 ad9 w9 hp => ?_)
        obtain ⟨rfl, rfl, rfl, rfl⟩ := hp
        show XW _ _ _ _ _ _ 31 _ (_ :: _)
        refine xb_if_eq (tgt := 84) C d_Tr_treeAt_31 (by decide)  (fun c31 => ?_) (fun c31 => ?_)
        · skip
          have b31 : ¬ (0 ≤ (x : Int) ∧ 0 ≤ mk (x : Int).toNat ∧ mk (x : Int).toNat < 12) := of_decide_eq_false c31
          rw [show ((x : Int)).toNat = x by omega] at b31
          refine xr_iload_n C 3 d_Tr_treeAt_84 rfl hl3 ?_
          exact xr_iret C E ⟨rfl, rfl, rfl, by
            rw [hgoal]
            have hy0 : p = 0 := by
              first
              | omega
              | (exfalso
                 have : (lyS S x).length = 1 := by
                   unfold shp at sx
                   rw [ly_0 (by omega) (by omega)]
                   rfl
                 omega)
            rw [hy0] at hy
            unfold lyS at hy
            rw [ly_eq] at hy
            cases hy
            rfl⟩ (by decide) (by decide) d_Tr_treeAt_85
        · skip
          have b31 : (0 ≤ (x : Int) ∧ 0 ≤ mk (x : Int).toNat ∧ mk (x : Int).toNat < 12) := of_decide_eq_true c31
          rw [show ((x : Int)).toNat = x by omega] at b31
          have hsx : sSg S x < 100 := by unfold shp at sx; omega
          have hfx : 0 ≤ sFs S x ∧ sFs S x < x := by unfold shp at sx; omega
          have p5 := (hC.1 (sFs S x).toNat (by omega)).2.2.2.2.1
          have pr5 := (hC.2.2.1 (sFs S x).toNat).2.2.2.2.1
          have hlf := lyS_len hT (j := (sFs S x).toNat) (by omega)
          refine xr_iinc C d_Tr_treeAt_34 (by decide) hl4 ?_
          refine xr_aload_n C 0 d_Tr_treeAt_37 rfl hl0 ?_
          refine xr_get (k := 1) C xg_Tr_24 hw1 (by decide) rfl d_Tr_treeAt_38 ?_
          refine xr_aload_n C 0 d_Tr_treeAt_41 rfl hl0 ?_
          refine xr_get (k := 1) C xg_Tr_15 hw1 (by decide) rfl d_Tr_treeAt_42 ?_
          refine xr_iload_n C 3 d_Tr_treeAt_45 rfl hl3 ?_
          refine xj_iald (k := 3) C (x) (by omega) hw3 (by decide) (by omega) (by decide) d_Tr_treeAt_46 ?_
          refine xr_eqz (y := (((sFs S x).toNat : Nat) : Int)) (by omega) ?_
          refine xj_iald (k := 6) C ((sFs S x).toNat) (by omega) hw6 (by decide) (by omega) (by decide) d_Tr_treeAt_47 ?_
          refine xr_istore C d_Tr_treeAt_48 (by decide) ?_
          refine xr_iload C d_Tr_treeAt_50 rfl ?_
          refine xr_iload C d_Tr_treeAt_52 rfl ?_
          refine xz_icmp_ge (tgt := 67) C d_Tr_treeAt_54 (by decide) (by omega) (by omega) (fun c54 => ?_) (fun c54 => ?_)
          · skip
            refine xr_iload C d_Tr_treeAt_67 rfl ?_
            refine xr_iload C d_Tr_treeAt_69 rfl ?_
            refine xz_isub C d_Tr_treeAt_71 ?_
            refine xr_istore C d_Tr_treeAt_72 (by decide) ?_
            refine xr_aload_n C 0 d_Tr_treeAt_74 rfl hl0 ?_
            refine xr_get (k := 1) C xg_Tr_18 hw1 (by decide) rfl d_Tr_treeAt_75 ?_
            refine xr_iload_n C 3 d_Tr_treeAt_78 rfl hl3 ?_
            refine xj_iald (k := 4) C (x) (by omega) hw4 (by decide) (by omega) (by decide) d_Tr_treeAt_79 ?_
            refine xr_istore_n C 3 d_Tr_treeAt_80 rfl (by decide) ?_
            refine xr_goto (tgt := 21) C d_Tr_treeAt_81 (by decide) ?_
            first
              | exact ih (sFs S x).toNat (p - 1) _ (by omega) (by omega) (by
                  unfold shp at sx
                  rcases Int.lt_or_le (sSg S x) 6 with q | q
                  · rw [ly_1 (x := x) (by omega) (by omega), show p = (p - 1) + 1 by omega, List.getElem?_cons_succ] at hy
                    exact hy
                  · rw [ly_2 (x := x) (by omega) (by omega), show p = (p - 1) + 1 by omega, List.getElem?_cons_succ, List.getElem?_append_left (by omega)] at hy
                    exact hy) hl0 (by show some (Value.int (zI (fs x))) = _; rw [m2, show (((sFs S x).toNat : Nat) : Int) = sFs S x by omega]) (by show some (Value.int (zI ((p : Int) + -1))) = _; rw [show ((p : Int) + -1) = ((p - 1 : Nat) : Int) by omega])
              | exact ih (sSn S x).toNat (p - 1 - (lyS S (sFs S x).toNat).length) _ (by unfold shp at sx; omega) (by unfold shp at sx; omega) (by
                  unfold shp at sx
                  rcases Int.lt_or_le (sSg S x) 6 with q | q
                  · exfalso
                    rw [ly_1 (x := x) (by omega) (by omega), List.length_cons] at hpl
                    omega
                  · rw [ly_2 (x := x) (by omega) (by omega), show p = (p - 1) + 1 by omega, List.getElem?_cons_succ, List.getElem?_append_right (by omega)] at hy
                    exact hy) hl0 (by
                  show some (Value.int (zI (sn x))) = _
                  unfold shp at sx
                  rcases Int.lt_or_le (sSg S x) 6 with q | q
                  · exfalso
                    rw [ly_1 (x := x) (by omega) (by omega), List.length_cons] at hpl
                    omega
                  · rw [m3, show (((sSn S x).toNat : Nat) : Int) = sSn S x by omega]) (by show some (Value.int (zI ((p : Int) + -1 - pl (sFs S x).toNat))) = _; rw [show ((p : Int) + -1 - pl (sFs S x).toNat) = ((p - 1 - (lyS S (sFs S x).toNat).length : Nat) : Int) by omega])
          · skip
            refine xr_aload_n C 0 d_Tr_treeAt_57 rfl hl0 ?_
            refine xr_get (k := 1) C xg_Tr_15 hw1 (by decide) rfl d_Tr_treeAt_58 ?_
            refine xr_iload_n C 3 d_Tr_treeAt_61 rfl hl3 ?_
            refine xj_iald (k := 3) C (x) (by omega) hw3 (by decide) (by omega) (by decide) d_Tr_treeAt_62 ?_
            refine xr_istore_n C 3 d_Tr_treeAt_63 rfl (by decide) ?_
            refine xr_goto (tgt := 81) C d_Tr_treeAt_64 (by decide) ?_
            refine xr_goto (tgt := 21) C d_Tr_treeAt_81 (by decide) ?_
            first
              | exact ih (sFs S x).toNat (p - 1) _ (by omega) (by omega) (by
                  unfold shp at sx
                  rcases Int.lt_or_le (sSg S x) 6 with q | q
                  · rw [ly_1 (x := x) (by omega) (by omega), show p = (p - 1) + 1 by omega, List.getElem?_cons_succ] at hy
                    exact hy
                  · rw [ly_2 (x := x) (by omega) (by omega), show p = (p - 1) + 1 by omega, List.getElem?_cons_succ, List.getElem?_append_left (by omega)] at hy
                    exact hy) hl0 (by show some (Value.int (zI (fs x))) = _; rw [m2, show (((sFs S x).toNat : Nat) : Int) = sFs S x by omega]) (by show some (Value.int (zI ((p : Int) + -1))) = _; rw [show ((p : Int) + -1) = ((p - 1 : Nat) : Int) by omega])
              | exact ih (sSn S x).toNat (p - 1 - (lyS S (sFs S x).toNat).length) _ (by unfold shp at sx; omega) (by unfold shp at sx; omega) (by
                  unfold shp at sx
                  rcases Int.lt_or_le (sSg S x) 6 with q | q
                  · exfalso
                    rw [ly_1 (x := x) (by omega) (by omega), List.length_cons] at hpl
                    omega
                  · rw [ly_2 (x := x) (by omega) (by omega), show p = (p - 1) + 1 by omega, List.getElem?_cons_succ, List.getElem?_append_right (by omega)] at hy
                    exact hy) hl0 (by
                  show some (Value.int (zI (sn x))) = _
                  unfold shp at sx
                  rcases Int.lt_or_le (sSg S x) 6 with q | q
                  · exfalso
                    rw [ly_1 (x := x) (by omega) (by omega), List.length_cons] at hpl
                    omega
                  · rw [m3, show (((sSn S x).toNat : Nat) : Int) = sSn S x by omega]) (by show some (Value.int (zI ((p : Int) + -1 - pl (sFs S x).toNat))) = _; rw [show ((p : Int) + -1 - pl (sFs S x).toNat) = ((p - 1 - (lyS S (sFs S x).toNat).length : Nat) : Int) by omega])
  refine xr_iload_n C 2 d_Tr_treeAt_0 rfl rfl ?_
  refine xz_if_lt (tgt := 14) C d_Tr_treeAt_1 (by decide) (by omega) (fun c1 => ?_) (fun c1 => ?_)
  · skip
    refine xr_iconst C d_Tr_treeAt_14 ?_
    exact xr_iret C E ⟨rfl, rfl, rfl, by unfold atS; rw [if_neg (by omega)]⟩ (by decide) (by decide) d_Tr_treeAt_15
  · skip
    refine xr_iload_n C 2 d_Tr_treeAt_4 rfl rfl ?_
    refine xr_aload_n C 0 d_Tr_treeAt_5 rfl rfl ?_
    refine xr_get (k := 1) C xg_Tr_24 hw1 (by decide) rfl d_Tr_treeAt_6 ?_
    refine xr_iload_n C 1 d_Tr_treeAt_9 rfl rfl ?_
    obtain ⟨-, -, -, -, m5, -⟩ := hC.1 t ht
    have hpt := (hT.2.1 t ht).2.2.2.2.2
    have hlt := lyS_len hT ht
    refine xj_iald (k := 6) C (t) (by omega) hw6 (by decide) (by omega) (by decide) d_Tr_treeAt_10 ?_
    refine xz_icmp_lt (tgt := 16) C d_Tr_treeAt_11 (by decide) (by omega) (by omega) (fun c11 => ?_) (fun c11 => ?_)
    · skip
      refine xr_iload_n C 1 d_Tr_treeAt_16 rfl rfl ?_
      refine xr_istore_n C 3 d_Tr_treeAt_17 rfl (by decide) ?_
      refine xr_iload_n C 2 d_Tr_treeAt_18 rfl rfl ?_
      refine xr_istore C d_Tr_treeAt_19 (by decide) ?_
      have hyy : (lyS S t)[p0.toNat]? = some ((lyS S t)[p0.toNat]'(by omega)) := List.getElem?_eq_getElem _
      exact lp _ (atS_in hT ht (by omega) hyy) (t + 1) t p0.toNat _ (by omega) ht hyy rfl rfl (by show some (Value.int (zI p0)) = _; rw [show ((p0.toNat : Nat) : Int) = p0 by omega])
    · skip
      refine xr_iconst C d_Tr_treeAt_14 ?_
      exact xr_iret C E ⟨rfl, rfl, rfl, by unfold atS; rw [if_neg (by omega)]⟩ (by decide) (by decide) d_Tr_treeAt_15
set_option maxHeartbeats 4000000 in
set_option maxRecDepth 100000 in
theorem m_Tr_shrinkTo {L : Launch} {D : va_G} {cA : Nat → ClassId} {base : Nat} {ad : Nat → Nat} {w : Nat → va_E} {S : xS} (hCT : CT ad cA w S) (hT : Tb S) {n : Nat} (hn : n ≤ sN S) : XM L D cA base y_Tr_shrinkTo c_Tr_shrinkTo 2 none (xrm 1 0 0) [.ref (ad 1), .int (zI (n : Int))] 56 ad w (xVoid 56 ad (fun w' => CT ad cA w' (cut S n) ∧ (∀ k, (k < 1 ∨ 11 < k) → w' k = w k))) xF := by
  refine xm_of (by decide +kernel) (by simp [Value.category]) (Nat.le_of_ble_eq_true rfl) (fun G C E _ => ?_)
  obtain ⟨mk, fs, sn, wt, pl, dp, ho, hc, nw, od, hw1, hw2, hw3, hw4, hw5, hw6, hw7, hw8, hw9, hw10, hw11, hC⟩ := hCT
  have hN := hT.1
  have lp : ∀ (k m : Nat) (w1 : Nat → va_E) (nw : Nat → Int) (lv : Nat → Option Value), m < k → n ≤ m → m ≤ sN S → w1 1 = trO ad (m : Int) → w1 2 = xIA (cA 0) 300 mk → w1 3 = xIA (cA 0) 300 fs → w1 4 = xIA (cA 0) 300 sn → w1 5 = xIA (cA 0) 300 wt → w1 6 = xIA (cA 0) 300 pl → w1 7 = xIA (cA 0) 300 dp → w1 8 = xIA (cA 0) 300 ho → w1 9 = xIA (cA 0) 1800 hc → w1 11 = xIA (cA 0) 300 od → w1 10 = xIA (cA 0) 512 nw → TC (cut S m) mk fs sn wt pl dp ho hc nw od → (∀ k, (k < 1 ∨ 11 < k) → w1 k = w k) → lv 0 = some (.ref (ad 1)) → lv 1 = some (.int (zI (n : Int))) → XW G 56 ad w1 0 0 0 lv [] := by
    intro k
    induction k with
    | zero => intro m w1 nw lv h1; exact absurd h1 (by omega)
    | succ k ih =>
      intro m w1 nw lv h1 h2 h3 hw1 hw2 hw3 hw4 hw5 hw6 hw7 hw8 hw9 hw11 hw10 hC hfr hl0 hl1
      refine xr_aload_n C 0 d_Tr_shrinkTo_0 rfl hl0 ?_
      refine xr_get (k := 1) C xg_Tr_42 hw1 (by decide) rfl d_Tr_shrinkTo_1 ?_
      refine xr_iload_n C 1 d_Tr_shrinkTo_4 rfl hl1 ?_
      refine xz_icmp_le (tgt := 73) C d_Tr_shrinkTo_5 (by decide) (by omega) (by omega) (fun c5 => ?_) (fun c5 => ?_)
      · skip
        exact xr_vret C E ⟨rfl, rfl, rfl, by rw [show n = m by omega]; exact ⟨mk, fs, sn, wt, pl, dp, ho, hc, nw, od, hw1, hw2, hw3, hw4, hw5, hw6, hw7, hw8, hw9, hw10, hw11, hC⟩, hfr⟩ (by decide) (by decide) d_Tr_shrinkTo_73
      · skip
        refine xr_aload_n C 0 d_Tr_shrinkTo_8 rfl hl0 ?_
        refine xr_get (k := 1) C xg_Tr_42 hw1 (by decide) rfl d_Tr_shrinkTo_9 ?_
        refine xz_if_le (tgt := 73) C d_Tr_shrinkTo_12 (by decide) (by omega) (fun c12 => ?_) (fun c12 => ?_)
        · skip
          exact xr_vret C E ⟨rfl, rfl, rfl, by rw [show n = m by omega]; exact ⟨mk, fs, sn, wt, pl, dp, ho, hc, nw, od, hw1, hw2, hw3, hw4, hw5, hw6, hw7, hw8, hw9, hw10, hw11, hC⟩, hfr⟩ (by decide) (by decide) d_Tr_shrinkTo_73
        · skip
          refine xr_aload_n C 0 d_Tr_shrinkTo_15 rfl hl0 ?_
          refine xr_dup C rfl d_Tr_shrinkTo_16 ?_
          refine xr_get (k := 1) C xg_Tr_42 hw1 (by decide) rfl d_Tr_shrinkTo_17 ?_
          refine xr_iconst C d_Tr_shrinkTo_20 ?_
          refine xz_isub C d_Tr_shrinkTo_21 ?_
          refine xr_put (k := 1) C xf_Tr_42 hw1 (by decide) rfl rfl (Nat.le_of_ble_eq_true rfl) d_Tr_shrinkTo_22 ?_
          refine xr_aload_n C 0 d_Tr_shrinkTo_25 rfl hl0 ?_
          refine xr_get (k := 1) C xg_Tr_36 rfl (by decide) rfl d_Tr_shrinkTo_26 ?_
          refine xr_aload_n C 0 d_Tr_shrinkTo_29 rfl hl0 ?_
          refine xr_aload_n C 0 d_Tr_shrinkTo_30 rfl hl0 ?_
          refine xr_get (k := 1) C xg_Tr_9 rfl (by decide) rfl d_Tr_shrinkTo_31 ?_
          refine xr_aload_n C 0 d_Tr_shrinkTo_34 rfl hl0 ?_
          refine xr_get (k := 1) C xg_Tr_42 rfl (by decide) rfl d_Tr_shrinkTo_35 ?_
          obtain ⟨m1, m2, m3, -⟩ := hC.1 (m - 1) (by show m - 1 < m; omega)
          have m1 : mk (m - 1) = um (sSg S (m - 1)) := m1
          have m2 : fs (m - 1) = sFs S (m - 1) := m2
          have m3 : sn (m - 1) = sSn S (m - 1) := m3
          have hsl := slot_in (sSg S (m - 1)) (sFs S (m - 1)) (sSn S (m - 1))
          have hsl9 : slS S (m - 1) = slot (sSg S (m - 1)) (sFs S (m - 1)) (sSn S (m - 1)) := rfl
          refine xj_iald (k := 2) C (m - 1) (by omega) hw2 (by decide) (by omega) (by decide) d_Tr_shrinkTo_38 ?_
          refine xr_aload_n C 0 d_Tr_shrinkTo_39 rfl hl0 ?_
          refine xr_get (k := 1) C xg_Tr_15 rfl (by decide) rfl d_Tr_shrinkTo_40 ?_
          refine xr_aload_n C 0 d_Tr_shrinkTo_43 rfl hl0 ?_
          refine xr_get (k := 1) C xg_Tr_42 rfl (by decide) rfl d_Tr_shrinkTo_44 ?_
          refine xj_iald (k := 3) C (m - 1) (by omega) hw3 (by decide) (by omega) (by decide) d_Tr_shrinkTo_47 ?_
          refine xr_aload_n C 0 d_Tr_shrinkTo_48 rfl hl0 ?_
          refine xr_get (k := 1) C xg_Tr_18 rfl (by decide) rfl d_Tr_shrinkTo_49 ?_
          refine xr_aload_n C 0 d_Tr_shrinkTo_52 rfl hl0 ?_
          refine xr_get (k := 1) C xg_Tr_42 rfl (by decide) rfl d_Tr_shrinkTo_53 ?_
          refine xj_iald (k := 4) C (m - 1) (by omega) hw4 (by decide) (by omega) (by decide) d_Tr_shrinkTo_56 ?_
          refine xr_callV (k9 := 1) C (m_Tr_slotOf (x := mk (m - 1)) (y := fs (m - 1)) (z := sn (m - 1))) xm_Tr_52 x2_Tr_slotOf rfl (by decide) rfl (by decide) (by decide) (Nat.le_of_ble_eq_true rfl) rfl d_Tr_shrinkTo_57 (fun En n9 ad9 w9 hx9 => hx9.elim) (fun v n9 ad9 w9 hp => ?_)
          obtain ⟨rfl, rfl, rfl, rfl⟩ := hp
          show XW _ _ _ _ _ _ 60 _ (_ :: _)
          refine xr_eqz (y := (((slS S (m - 1)).toNat : Nat) : Int)) (by rw [m1, m2, m3, (show ((um (sSg S (m - 1)) * 31 + sFs S (m - 1)) * 31 + sSn S (m - 1)) % 512 = slS S (m - 1) from rfl)]; omega) ?_
          refine xr_aload_n C 0 d_Tr_shrinkTo_60 rfl hl0 ?_
          refine xr_get (k := 1) C xg_Tr_39 rfl (by decide) rfl d_Tr_shrinkTo_61 ?_
          refine xr_aload_n C 0 d_Tr_shrinkTo_64 rfl hl0 ?_
          refine xr_get (k := 1) C xg_Tr_42 rfl (by decide) rfl d_Tr_shrinkTo_65 ?_
          refine xj_iald (k := 11) C (m - 1) (by omega) hw11 (by decide) (by omega) (by decide) d_Tr_shrinkTo_68 ?_
          refine xj_iast (k := 10) C ((slS S (m - 1)).toNat) (by omega) hw10 (by decide) (by omega) (by decide) d_Tr_shrinkTo_69 ?_
          refine xr_goto (tgt := 0) C d_Tr_shrinkTo_70 (by decide) ?_
          refine ih (m - 1) _ (va_up nw (slS S (m - 1)).toNat (od (m - 1))) _ (by omega) (by omega) (by omega) ?_ hw2 hw3 hw4 hw5 hw6 hw7 hw8 hw9 hw11 rfl ?_ ?_ hl0 hl1
          · show va_up _ _ _ _ = _
            rw [va_ne (by decide), va_eq, show ((m - 1 : Nat) : Int) = (m : Int) - 1 by omega]
            rfl
          · rw [show m = (m - 1) + 1 by omega] at hC
            exact cut_TC hC
          · exact fun k hk => (va_ne (by omega)).trans ((va_ne (by omega)).trans (hfr k hk))
  exact lp (sN S + 1) (sN S) w nw _ (by omega) hn (Nat.le_refl _) hw1 hw2 hw3 hw4 hw5 hw6 hw7 hw8 hw9 hw11 hw10 hC (fun k _ => rfl) rfl rfl
set_option maxHeartbeats 4000000 in
set_option maxRecDepth 100000 in
theorem m_RS_needRun {L : Launch} {D : va_G} {cA : Nat → ClassId} {base : Nat} {ad : Nat → Nat} {w : Nat → va_E} (hLt : L.stackTraces = false) {kp sq : Nat} {ls : Int} {se : Bool} (hw0 : w 0 = rsO ad kp sq ls se) {S : xS} (hCT : CT ad cA w S) (hT : Tb S) {n : Nat} (hn : n ≤ sN S) {x : Int} (hx : -1 ≤ x ∧ x ≤ 300) : XM L D cA base y_RS_needRun c_RS_needRun 3 (some .int) (xrm 9 1 6) [.ref (ad 0), .int (zI x), .int (zI (n : Int))] 56 ad w (xRet 56 ad (fun z w' => w = w' ∧ z = x ∧ 0 ≤ x)) (xThr 56 ad (fun E w' => E = "java/lang/IllegalStateException" ∧ x < 0 ∧ CT ad cA w' (cut S n) ∧ (∀ k, (k < 1 ∨ 11 < k) → w' k = w k))) := by
  refine xm_of (by decide +kernel) (by simp [Value.category]) (Nat.le_of_ble_eq_true rfl) (fun G C E _ => ?_)
  have hw1 := ct_1 hCT
  refine xr_iload_n C 1 d_RS_needRun_0 rfl rfl ?_
  refine xz_if_ge (tgt := 12) C d_RS_needRun_1 (by decide) (by omega) (fun c1 => ?_) (fun c1 => ?_)
  · skip
    refine xr_iload_n C 1 d_RS_needRun_12 rfl rfl ?_
    refine xr_callS C (m_RS_needMade hLt (x := x) (by omega)) xm_RS_61 x2_RS_needMade (by decide) (by decide) (Nat.le_of_ble_eq_true rfl) rfl d_RS_needRun_13 (fun En n9 ad9 w9 hx9 => by
          obtain ⟨rfl, rfl, rfl, rfl, hq⟩ := hx9
          exact xx_out C E (by first | exact ⟨rfl, rfl, rfl, by omega, hCT', hfr'⟩ | (exfalso; omega)) (by decide) (by decide)) (fun v n9 ad9 w9 hp => ?_)
    obtain ⟨rfl, rfl, z9, rfl, rfl, rfl, hz0⟩ := hp
    show XW _ _ _ _ _ _ 16 _ (_ :: _)
    exact xr_iret C E (by first | exact ⟨rfl, rfl, _, rfl, rfl, rfl, by omega⟩ | (exfalso; omega)) (by decide) (by decide) d_RS_needRun_16
  · skip
    refine xr_aload_n C 0 d_RS_needRun_4 rfl rfl ?_
    refine xr_get (k := 0) C xg_RS_10 hw0 (by decide) rfl d_RS_needRun_5 ?_
    refine xr_iload_n C 2 d_RS_needRun_8 rfl rfl ?_
    refine xr_callV (k9 := 1) C (m_Tr_shrinkTo hCT hT hn) xm_RS_176 x2_Tr_shrinkTo hw1 (by decide) rfl (by decide) (by decide) (Nat.le_of_ble_eq_true rfl) rfl d_RS_needRun_9 (fun En n9 ad9 w9 hx9 => hx9.elim) (fun v n9 ad9 w9 hp => ?_)
    obtain ⟨rfl, rfl, rfl, hCT', hfr'⟩ := hp
    have hneg : x < 0 := by omega
    refine xr_iload_n C 1 d_RS_needRun_12 rfl rfl ?_
    refine xr_callS C (m_RS_needMade hLt (x := x) (by omega)) xm_RS_61 x2_RS_needMade (by decide) (by decide) (Nat.le_of_ble_eq_true rfl) rfl d_RS_needRun_13 (fun En n9 ad9 w9 hx9 => by
          obtain ⟨rfl, rfl, rfl, rfl, hq⟩ := hx9
          exact xx_out C E (by first | exact ⟨rfl, rfl, rfl, by omega, hCT', hfr'⟩ | (exfalso; omega)) (by decide) (by decide)) (fun v n9 ad9 w9 hp => ?_)
    obtain ⟨rfl, rfl, z9, rfl, rfl, rfl, hz0⟩ := hp
    show XW _ _ _ _ _ _ 16 _ (_ :: _)
    exact xr_iret C E (by first | exact ⟨rfl, rfl, _, rfl, rfl, rfl, by omega⟩ | (exfalso; omega)) (by decide) (by decide) d_RS_needRun_16
set_option maxHeartbeats 4000000 in
set_option maxRecDepth 100000 in
theorem m_RS_keepRun {L : Launch} {D : va_G} {cA : Nat → ClassId} {base : Nat} {ad : Nat → Nat} {w : Nat → va_E} {kp sq : Nat} {ls : Int} {se : Bool} (hw0 : w 0 = rsO ad kp sq ls se) {sp pl le md : Int} {mo : Bool} (hw19 : w 19 = rnO ad sp pl le md mo) : XM L D cA base y_RS_keepRun c_RS_keepRun 2 none (xrm 0 0 0) [.ref (ad 0)] 56 ad w (xVoid 56 ad (fun w' => w' = va_up w 0 (rsO ad sq kp md se))) xF := by
  refine xm_of (by decide +kernel) (by simp [Value.category]) (Nat.le_of_ble_eq_true rfl) (fun G C E _ => ?_)
  refine xr_aload_n C 0 d_RS_keepRun_0 rfl rfl ?_
  refine xr_get (k := 0) C xg_RS_35 hw0 (by decide) rfl d_RS_keepRun_1 ?_
  refine xr_astore_n C 1 d_RS_keepRun_4 rfl (by decide) ?_
  refine xr_aload_n C 0 d_RS_keepRun_5 rfl rfl ?_
  refine xr_aload_n C 0 d_RS_keepRun_6 rfl rfl ?_
  refine xr_get (k := 0) C xg_RS_39 hw0 (by decide) rfl d_RS_keepRun_7 ?_
  refine xr_put (k := 0) C xf_RS_35 hw0 (by decide) rfl rfl (Nat.le_of_ble_eq_true rfl) d_RS_keepRun_10 ?_
  refine xr_aload_n C 0 d_RS_keepRun_13 rfl rfl ?_
  refine xr_aload_n C 1 d_RS_keepRun_14 rfl rfl ?_
  refine xr_put (k := 0) C xf_RS_39 rfl (by decide) rfl rfl (Nat.le_of_ble_eq_true rfl) d_RS_keepRun_15 ?_
  refine xr_aload_n C 0 d_RS_keepRun_18 rfl rfl ?_
  refine xr_aload_n C 0 d_RS_keepRun_19 rfl rfl ?_
  refine xr_get (k := 0) C xg_RS_28 rfl (by decide) rfl d_RS_keepRun_20 ?_
  refine xr_get (k := 19) C xg_RS_179 hw19 (by decide) rfl d_RS_keepRun_23 ?_
  refine xr_put (k := 0) C xf_RS_42 rfl (by decide) rfl rfl (Nat.le_of_ble_eq_true rfl) d_RS_keepRun_26 ?_
  exact xr_vret C E ⟨rfl, rfl, rfl, by rw [bx_uu, bx_uu]; rfl⟩ (by decide) (by decide) d_RS_keepRun_29
set_option maxHeartbeats 4000000 in
set_option maxRecDepth 100000 in
theorem m_RS_at {L : Launch} {D : va_G} {cA : Nat → ClassId} {base : Nat} {ad : Nat → Nat} {w : Nat → va_E} (hLt : L.stackTraces = false) {kp sq : Nat} {ls : Int} {se : Bool} (hw0 : w 0 = rsO ad kp sq ls se) {S : xS} (hCT : CT ad cA w S) (hT : Tb S) {x : Int} (hx : -2147483648 ≤ x ∧ x < 2147483648) {y : Int} (hy : -2147483648 ≤ y ∧ y < 2147483648) : XM L D cA base y_RS_at c_RS_at 3 (some .int) (xrm 9 1 6) [.ref (ad 0), .int (zI x), .int (zI y)] 56 ad w (xRet 56 ad (fun z w' => w = w' ∧ z = atS S x.toNat y ∧ (0 ≤ x ∧ x < (sN S : Int)))) (xThr 56 ad (fun E w' => w = w' ∧ E = "java/lang/IndexOutOfBoundsException" ∧ ¬ (0 ≤ x ∧ x < (sN S : Int)))) := by
  refine xm_of (by decide +kernel) (by simp [Value.category]) (Nat.le_of_ble_eq_true rfl) (fun G C E _ => ?_)
  have hN := hT.1
  have hw1 := ct_1 hCT
  refine xr_aload_n C 0 d_RS_at_0 rfl rfl ?_
  refine xr_iload_n C 1 d_RS_at_1 rfl rfl ?_
  refine xr_callV (k9 := 0) C (m_RS_needTree hLt hw0 hw1 (by omega) (x := x) (by omega)) xm_RS_67 x2_RS_needTree hw0 (by decide) rfl (by decide) (by decide) (Nat.le_of_ble_eq_true rfl) rfl d_RS_at_2 (fun En n9 ad9 w9 hx9 => by
        obtain ⟨rfl, rfl, rfl, rfl, hq⟩ := hx9
        exact xx_out C E ⟨rfl, rfl, rfl, rfl, by omega⟩ (by decide) (by decide)) (fun v n9 ad9 w9 hp => ?_)
  obtain ⟨rfl, rfl, rfl, rfl, hq0, hq1⟩ := hp
  refine xr_aload_n C 0 d_RS_at_5 rfl rfl ?_
  refine xr_get (k := 0) C xg_RS_10 hw0 (by decide) rfl d_RS_at_6 ?_
  refine xr_iload_n C 1 d_RS_at_9 rfl rfl ?_
  refine xr_eqz (y := ((x.toNat : Nat) : Int)) (by omega) ?_
  refine xr_iload_n C 2 d_RS_at_10 rfl rfl ?_
  refine xr_callV (k9 := 1) C (m_Tr_treeAt hCT hT (t := x.toNat) (by omega) (p0 := y) (by omega)) xm_RS_158 x2_Tr_treeAt hw1 (by decide) rfl (by decide) (by decide) (Nat.le_of_ble_eq_true rfl) rfl d_RS_at_11 (fun En n9 ad9 w9 hx9 => hx9.elim) (fun v n9 ad9 w9 hp => ?_)
  obtain ⟨rfl, rfl, rfl, rfl⟩ := hp
  show XW _ _ _ _ _ _ 14 _ (_ :: _)
  exact xr_iret C E ⟨rfl, rfl, _, rfl, rfl, rfl, by omega⟩ (by decide) (by decide) d_RS_at_14
set_option maxHeartbeats 4000000 in
set_option maxRecDepth 100000 in
theorem m_RS_above {L : Launch} {D : va_G} {cA : Nat → ClassId} {base : Nat} {ad : Nat → Nat} {w : Nat → va_E} (hLt : L.stackTraces = false) {kp sq : Nat} {ls : Int} {se : Bool} (hw0 : w 0 = rsO ad kp sq ls se) {S : xS} (hCT : CT ad cA w S) (hT : Tb S) {x : Int} (hx : -2147483648 ≤ x ∧ x < 2147483648) {y : Int} (hy : -2147483648 ≤ y ∧ y < 2147483648) : XM L D cA base y_RS_above c_RS_above 3 (some .boolean) (xrm 9 2 12) [.ref (ad 0), .int (zI x), .int (zI y)] 56 ad w (xRet 56 ad (fun z w' => w = w' ∧ z = xb (abv S x.toNat y.toNat) ∧ ((0 ≤ x ∧ x < (sN S : Int)) ∧ (0 ≤ y ∧ y < (sN S : Int))))) (xThr 56 ad (fun E w' => w = w' ∧ E = "java/lang/IndexOutOfBoundsException" ∧ ¬ ((0 ≤ x ∧ x < (sN S : Int)) ∧ (0 ≤ y ∧ y < (sN S : Int))))) := by
  refine xm_of (by decide +kernel) (by simp [Value.category]) (Nat.le_of_ble_eq_true rfl) (fun G C E _ => ?_)
  have hN := hT.1
  have hw1 := ct_1 hCT
  refine xr_aload_n C 0 d_RS_above_0 rfl rfl ?_
  refine xr_iload_n C 1 d_RS_above_1 rfl rfl ?_
  refine xr_callV (k9 := 0) C (m_RS_needTree hLt hw0 hw1 (by omega) (x := x) (by omega)) xm_RS_67 x2_RS_needTree hw0 (by decide) rfl (by decide) (by decide) (Nat.le_of_ble_eq_true rfl) rfl d_RS_above_2 (fun En n9 ad9 w9 hx9 => by
        obtain ⟨rfl, rfl, rfl, rfl, hq⟩ := hx9
        exact xx_out C E ⟨rfl, rfl, rfl, rfl, by omega⟩ (by decide) (by decide)) (fun v n9 ad9 w9 hp => ?_)
  obtain ⟨rfl, rfl, rfl, rfl, hq0a, hq1a⟩ := hp
  refine xr_aload_n C 0 d_RS_above_5 rfl rfl ?_
  refine xr_iload_n C 2 d_RS_above_6 rfl rfl ?_
  refine xr_callV (k9 := 0) C (m_RS_needTree hLt hw0 hw1 (by omega) (x := y) (by omega)) xm_RS_67 x2_RS_needTree hw0 (by decide) rfl (by decide) (by decide) (Nat.le_of_ble_eq_true rfl) rfl d_RS_above_7 (fun En n9 ad9 w9 hx9 => by
        obtain ⟨rfl, rfl, rfl, rfl, hq⟩ := hx9
        exact xx_out C E ⟨rfl, rfl, rfl, rfl, by omega⟩ (by decide) (by decide)) (fun v n9 ad9 w9 hp => ?_)
  obtain ⟨rfl, rfl, rfl, rfl, hq0b, hq1b⟩ := hp
  refine xr_aload_n C 0 d_RS_above_10 rfl rfl ?_
  refine xr_get (k := 0) C xg_RS_10 hw0 (by decide) rfl d_RS_above_11 ?_
  refine xr_iload_n C 1 d_RS_above_14 rfl rfl ?_
  refine xr_eqz (y := ((x.toNat : Nat) : Int)) (by omega) ?_
  refine xr_iload_n C 2 d_RS_above_15 rfl rfl ?_
  refine xr_eqz (y := ((y.toNat : Nat) : Int)) (by omega) ?_
  refine xr_callV (k9 := 1) C (m_Tr_isAbove hCT hT (x0 := x.toNat) (y0 := y.toNat) (by omega) (by omega)) xm_RS_85 x2_Tr_isAbove hw1 (by decide) rfl (by decide) (by decide) (Nat.le_of_ble_eq_true rfl) rfl d_RS_above_16 (fun En n9 ad9 w9 hx9 => hx9.elim) (fun v n9 ad9 w9 hp => ?_)
  obtain ⟨rfl, rfl, rfl, rfl⟩ := hp
  show XW _ _ _ _ _ _ 19 _ (_ :: _)
  exact xr_zret C E xb_01 ⟨rfl, rfl, _, rfl, rfl, rfl, by omega⟩ (by decide) (by decide) d_RS_above_19
set_option maxHeartbeats 4000000 in
set_option maxRecDepth 100000 in
theorem m_RS_rule {L : Launch} {D : va_G} {cA : Nat → ClassId} {base : Nat} {ad : Nat → Nat} {w : Nat → va_E} (hLt : L.stackTraces = false) {kp sq : Nat} {ls : Int} {se : Bool} (hw0 : w 0 = rsO ad kp sq ls se) {S : xS} (hCT : CT ad cA w S) (hT : Tb S) {n : Nat} {rl rr co le ch : Nat → Int} (hn : n ≤ 16) (hw12 : w 12 = ruO ad (n : Int)) (hw13 : w 13 = xIA (cA 0) 16 rl) (hw14 : w 14 = xIA (cA 0) 16 rr) (hw15 : w 15 = xIA (cA 0) 16 co) (hw16 : w 16 = xIA (cA 1) 16 le) (hw17 : w 17 = xIA (cA 1) 16 ch) {x : Int} (hx : -2147483648 ≤ x ∧ x < 2147483648) {y : Int} (hy : -2147483648 ≤ y ∧ y < 2147483648) {u : Int} (hu : -2147483648 ≤ u ∧ u < 2147483648) : XM L D cA base y_RS_rule c_RS_rule 4 (some .int) (xrm 9 3 18) [.ref (ad 0), .int (zI x), .int (zI y), .int (zI u)] 56 ad w (xRet 56 ad (fun z w' => ((0 ≤ x ∧ x < (sN S : Int)) ∧ (0 ≤ y ∧ y < (sN S : Int))) ∧ (sSg S x.toNat < 100 ∧ nmk (sHo S y.toNat) (sHo S x.toNat) = 0 ∧ -1 ≤ u ∧ u < 10) ∧ ((n < 16 ∧ z = (n : Int) ∧ w' = va_up (va_up (va_up (va_up (va_up (va_up w 12 (ruO ad ((n : Int) + 1))) 13 (xIA (cA 0) 16 (va_up rl n x))) 14 (xIA (cA 0) 16 (va_up rr n y))) 15 (xIA (cA 0) 16 (va_up co n u))) 16 (xIA (cA 1) 16 (va_up le n (xb (abv S x.toNat y.toNat))))) 17 (xIA (cA 1) 16 (va_up ch n 1))) ∨ (¬ n < 16 ∧ z = -1 ∧ w' = w)))) (xThr 56 ad (fun E w' => (E = "java/lang/IndexOutOfBoundsException" ∧ ¬ ((0 ≤ x ∧ x < (sN S : Int)) ∧ (0 ≤ y ∧ y < (sN S : Int))) ∧ w = w') ∨ (E = "java/lang/IllegalArgumentException" ∧ ((0 ≤ x ∧ x < (sN S : Int)) ∧ (0 ≤ y ∧ y < (sN S : Int))) ∧ ¬ (sSg S x.toNat < 100 ∧ nmk (sHo S y.toNat) (sHo S x.toNat) = 0 ∧ -1 ≤ u ∧ u < 10) ∧ w = w'))) := by
  refine xm_of (by decide +kernel) (by simp [Value.category]) (Nat.le_of_ble_eq_true rfl) (fun G C E _ => ?_)
  obtain ⟨mk, fs, sn, wt, pl, dp, ho, hc, nw, od, hw1, hw2, hw3, hw4, hw5, hw6, hw7, hw8, hw9, hw10, hw11, hC⟩ := id hCT
  have hN := hT.1
  refine xr_aload_n C 0 d_RS_rule_0 rfl rfl ?_
  refine xr_iload_n C 1 d_RS_rule_1 rfl rfl ?_
  refine xr_callV (k9 := 0) C (m_RS_needTree hLt hw0 hw1 (by omega) (x := x) (by omega)) xm_RS_67 x2_RS_needTree hw0 (by decide) rfl (by decide) (by decide) (Nat.le_of_ble_eq_true rfl) rfl d_RS_rule_2 (fun En n9 ad9 w9 hx9 => by
        obtain ⟨rfl, rfl, rfl, rfl, hq⟩ := hx9
        exact xx_out C E ⟨rfl, rfl, Or.inl ⟨rfl, by omega, rfl⟩⟩ (by decide) (by decide)) (fun v n9 ad9 w9 hp => ?_)
  obtain ⟨rfl, rfl, rfl, rfl, hq0a, hq1a⟩ := hp
  refine xr_aload_n C 0 d_RS_rule_5 rfl rfl ?_
  refine xr_iload_n C 2 d_RS_rule_6 rfl rfl ?_
  refine xr_callV (k9 := 0) C (m_RS_needTree hLt hw0 hw1 (by omega) (x := y) (by omega)) xm_RS_67 x2_RS_needTree hw0 (by decide) rfl (by decide) (by decide) (Nat.le_of_ble_eq_true rfl) rfl d_RS_rule_7 (fun En n9 ad9 w9 hx9 => by
        obtain ⟨rfl, rfl, rfl, rfl, hq⟩ := hx9
        exact xx_out C E ⟨rfl, rfl, Or.inl ⟨rfl, by omega, rfl⟩⟩ (by decide) (by decide)) (fun v n9 ad9 w9 hp => ?_)
  obtain ⟨rfl, rfl, rfl, rfl, hq0b, hq1b⟩ := hp
  obtain ⟨m1, -, -, -, -, -, mh⟩ := hC.1 x.toNat (by omega)
  have my := (hC.1 y.toNat (by omega)).2.2.2.2.2.2
  obtain ⟨sx, -⟩ := hT.2.1 x.toNat (by omega)
  have hux := um_eq sx
  have hnm := nmk_in (sHo S y.toNat) (sHo S x.toNat)
  refine xr_aload_n C 0 d_RS_rule_10 rfl rfl ?_
  refine xr_get (k := 0) C xg_RS_10 hw0 (by decide) rfl d_RS_rule_11 ?_
  refine xr_iload_n C 1 d_RS_rule_14 rfl rfl ?_
  refine xr_callV (k9 := 1) C (m_Tr_isNode hw1 hw2 (fun j => (hC.2.2.1 j).1) (x := x) (by omega)) xm_RS_73 x2_Tr_isNode hw1 (by decide) rfl (by decide) (by decide) (Nat.le_of_ble_eq_true rfl) rfl d_RS_rule_15 (fun En n9 ad9 w9 hx9 => hx9.elim) (fun v n9 ad9 w9 hp => ?_)
  obtain ⟨rfl, rfl, rfl, rfl⟩ := hp
  show XW _ _ _ _ _ _ 18 _ (_ :: _)
  refine xb_if_eq (tgt := 45) C d_RS_rule_18 (by decide)  (fun c18 => ?_) (fun c18 => ?_)
  · skip
    have b18 : ¬ (0 ≤ x ∧ 0 ≤ mk x.toNat ∧ mk x.toNat < 12) := of_decide_eq_false c18
    have hsx : ¬ sSg S x.toNat < 100 := by unfold shp at sx; omega
    exact xr_throw C E hLt (cls := "java/lang/IllegalArgumentException") (text := "the trees make no rule") (names := ["java/lang/RuntimeException", "java/lang/Exception"]) rfl (by decide +kernel) (by decide +kernel) xk_RS_50 xi_IA (by decide +kernel) xat_IA (by decide +kernel) d_RS_rule_45 d_RS_rule_48 d_RS_rule_49 d_RS_rule_51 d_RS_rule_54 (by decide) (by decide) ⟨rfl, rfl, Or.inr ⟨rfl, by omega, by omega, rfl⟩⟩ (by decide) (by decide)
  · skip
    have b18 : (0 ≤ x ∧ 0 ≤ mk x.toNat ∧ mk x.toNat < 12) := of_decide_eq_true c18
    have hsx : sSg S x.toNat < 100 := by unfold shp at sx; omega
    refine xr_aload_n C 0 d_RS_rule_21 rfl rfl ?_
    refine xr_get (k := 0) C xg_RS_10 hw0 (by decide) rfl d_RS_rule_22 ?_
    refine xr_get (k := 1) C xg_RS_77 hw1 (by decide) rfl d_RS_rule_25 ?_
    refine xr_iload_n C 2 d_RS_rule_28 rfl rfl ?_
    refine xz_iald (k := 8) C hw8 (by decide) (by omega) (by decide) d_RS_rule_29 ?_
    refine xr_aload_n C 0 d_RS_rule_30 rfl rfl ?_
    refine xr_get (k := 0) C xg_RS_10 hw0 (by decide) rfl d_RS_rule_31 ?_
    refine xr_get (k := 1) C xg_RS_77 hw1 (by decide) rfl d_RS_rule_34 ?_
    refine xr_iload_n C 1 d_RS_rule_37 rfl rfl ?_
    refine xz_iald (k := 8) C hw8 (by decide) (by omega) (by decide) d_RS_rule_38 ?_
    refine xr_iconst C d_RS_rule_39 ?_
    refine xr_ixor C d_RS_rule_40 ?_
    refine xr_iand C d_RS_rule_41 ?_
    rw [my, mh, zI_nmk]
    refine xz_if_eq (tgt := 55) C d_RS_rule_42 (by decide) (by omega) (fun c42 => ?_) (fun c42 => ?_)
    · skip
      refine xr_iload_n C 3 d_RS_rule_55 rfl rfl ?_
      refine xr_iconst C d_RS_rule_56 ?_
      refine xz_icmp_lt (tgt := 66) C d_RS_rule_57 (by decide) (by omega) (by omega) (fun c57 => ?_) (fun c57 => ?_)
      · skip
        exact xr_throw C E hLt (cls := "java/lang/IllegalArgumentException") (text := "no such condition") (names := ["java/lang/RuntimeException", "java/lang/Exception"]) rfl (by decide +kernel) (by decide +kernel) xk_RS_50 xi_IA (by decide +kernel) xat_IA (by decide +kernel) d_RS_rule_66 d_RS_rule_69 d_RS_rule_70 d_RS_rule_72 d_RS_rule_75 (by decide) (by decide) ⟨rfl, rfl, Or.inr ⟨rfl, by omega, by omega, rfl⟩⟩ (by decide) (by decide)
      · skip
        refine xr_iload_n C 3 d_RS_rule_60 rfl rfl ?_
        refine xr_bipush C d_RS_rule_61 (by decide) ?_
        refine xz_icmp_lt (tgt := 76) C d_RS_rule_63 (by decide) (by omega) (by omega) (fun c63 => ?_) (fun c63 => ?_)
        · skip
          refine xr_aload_n C 0 d_RS_rule_76 rfl rfl ?_
          refine xr_get (k := 0) C xg_RS_19 hw0 (by decide) rfl d_RS_rule_77 ?_
          refine xr_iload_n C 1 d_RS_rule_80 rfl rfl ?_
          refine xr_iload_n C 2 d_RS_rule_81 rfl rfl ?_
          refine xr_iload_n C 3 d_RS_rule_82 rfl rfl ?_
          refine xr_aload_n C 0 d_RS_rule_83 rfl rfl ?_
          refine xr_get (k := 0) C xg_RS_10 hw0 (by decide) rfl d_RS_rule_84 ?_
          refine xr_iload_n C 1 d_RS_rule_87 rfl rfl ?_
          refine xr_eqz (y := ((x.toNat : Nat) : Int)) (by omega) ?_
          refine xr_iload_n C 2 d_RS_rule_88 rfl rfl ?_
          refine xr_eqz (y := ((y.toNat : Nat) : Int)) (by omega) ?_
          refine xr_callV (k9 := 1) C (m_Tr_isAbove hCT hT (x0 := x.toNat) (y0 := y.toNat) (by omega) (by omega)) xm_RS_85 x2_Tr_isAbove hw1 (by decide) rfl (by decide) (by decide) (Nat.le_of_ble_eq_true rfl) rfl d_RS_rule_89 (fun En n9 ad9 w9 hx9 => hx9.elim) (fun v n9 ad9 w9 hp => ?_)
          obtain ⟨rfl, rfl, rfl, rfl⟩ := hp
          show XW _ _ _ _ _ _ 92 _ (_ :: _)
          refine xr_callV (k9 := 12) C (m_Ru_add hn hw12 hw13 hw14 hw15 hw16 hw17 (x := x) (y := y) (u := u) (p := abv S x.toNat y.toNat)) xm_RS_89 x2_Ru_add hw12 (by decide) rfl (by decide) (by decide) (Nat.le_of_ble_eq_true rfl) rfl d_RS_rule_92 (fun En n9 ad9 w9 hx9 => hx9.elim) (fun v n9 ad9 w9 hp => ?_)
          obtain ⟨rfl, rfl, z, rfl, hadd⟩ := hp
          show XW _ _ _ _ _ _ 95 _ (_ :: _)
          exact xr_iret C E ⟨rfl, rfl, _, rfl, by omega, by omega, hadd⟩ (by decide) (by decide) d_RS_rule_95
        · skip
          exact xr_throw C E hLt (cls := "java/lang/IllegalArgumentException") (text := "no such condition") (names := ["java/lang/RuntimeException", "java/lang/Exception"]) rfl (by decide +kernel) (by decide +kernel) xk_RS_50 xi_IA (by decide +kernel) xat_IA (by decide +kernel) d_RS_rule_66 d_RS_rule_69 d_RS_rule_70 d_RS_rule_72 d_RS_rule_75 (by decide) (by decide) ⟨rfl, rfl, Or.inr ⟨rfl, by omega, by omega, rfl⟩⟩ (by decide) (by decide)
    · skip
      exact xr_throw C E hLt (cls := "java/lang/IllegalArgumentException") (text := "the trees make no rule") (names := ["java/lang/RuntimeException", "java/lang/Exception"]) rfl (by decide +kernel) (by decide +kernel) xk_RS_50 xi_IA (by decide +kernel) xat_IA (by decide +kernel) d_RS_rule_45 d_RS_rule_48 d_RS_rule_49 d_RS_rule_51 d_RS_rule_54 (by decide) (by decide) ⟨rfl, rfl, Or.inr ⟨rfl, by omega, by omega, rfl⟩⟩ (by decide) (by decide)
set_option maxHeartbeats 4000000 in
set_option maxRecDepth 100000 in
theorem m_Md_above {L : Launch} {D : va_G} {cA : Nat → ClassId} {base : Nat} {ad : Nat → Nat} {w : Nat → va_E} {S : xS} {ru ro sp nr ns th : Int} {se fa so : Bool} (hMT : MT ad cA w S ru ro sp nr ns th se fa so) (hT : Tb S) (hSA : SA cA w) {x : Int} (hx : -2147483648 ≤ x ∧ x < 2147483648) {y : Int} (hy : -2147483648 ≤ y ∧ y < 2147483648) : XM L D cA base y_Md_above c_Md_above 3 (some .boolean) (xrm 5 0 0) [.ref (ad 29), .int (zI x), .int (zI y)] 56 ad w (xRet 56 ad (fun z w' => (((0 ≤ x ∧ x < (sN S : Int)) ∧ (0 ≤ y ∧ y < (sN S : Int))) ∧ z = xb (abv S x.toNat y.toNat) ∧ MT ad cA w' S ru ro sp nr ns 0 se fa so ∧ SA cA w' ∧ (∀ k, k ≠ 29 → k ≠ 46 → k ≠ 47 → k ≠ 50 → k ≠ 51 → w' k = w k)) ∨ (¬ ((0 ≤ x ∧ x < (sN S : Int)) ∧ (0 ≤ y ∧ y < (sN S : Int))) ∧ z = 0 ∧ w' = va_up w 29 (mdO ad (sN S : Int) ru ro sp nr ns 1 se fa so)))) xF := by
  refine xm_of (by decide +kernel) (by simp [Value.category]) (Nat.le_of_ble_eq_true rfl) (fun G C E _ => ?_)
  obtain ⟨sg, fs, sn, wt, pl, dp, ho, hw29, hw30, hw31, hw32, hw33, hw34, hw35, hw36, hA⟩ := hMT
  have hN := hT.1
  refine xr_aload_n C 0 d_Md_above_0 rfl rfl ?_
  refine xr_aload_n C 0 d_Md_above_1 rfl rfl ?_
  refine xr_iload_n C 1 d_Md_above_2 rfl rfl ?_
  refine xr_callV (k9 := 29) C (m_Md_isTree hw29 (by omega) (x := x) (by omega)) xm_Md_109 x2_Md_isTree hw29 (by decide) rfl (by decide) (by decide) (Nat.le_of_ble_eq_true rfl) rfl d_Md_above_3 (fun En n9 ad9 w9 hx9 => hx9.elim) (fun v n9 ad9 w9 hp => ?_)
  obtain ⟨rfl, rfl, rfl, rfl⟩ := hp
  show XW _ _ _ _ _ _ 6 _ (_ :: _)
  refine xb_if_eq (tgt := 21) C d_Md_above_6 (by decide)  (fun c6 => ?_) (fun c6 => ?_)
  · skip
    have b6 : ¬ (0 ≤ x ∧ x < (sN S : Int)) := of_decide_eq_false c6
    refine xr_iconst C d_Md_above_21 ?_
    refine xr_put (k := 29) C xf_Md_86 hw29 (by decide) rfl rfl (Nat.le_of_ble_eq_true rfl) d_Md_above_22 ?_
    refine xr_aload_n C 0 d_Md_above_25 rfl rfl ?_
    refine xr_get (k := 29) C xg_Md_86 rfl (by decide) rfl d_Md_above_26 ?_
    refine xz_if_ne (tgt := 45) C d_Md_above_29 (by decide) (by omega) (fun c29 => ?_) (fun c29 => by exfalso; omega)
    refine xr_iconst C d_Md_above_45 ?_
    exact xr_zret C E (by omega) ⟨rfl, rfl, _, rfl, by first | exact Or.inl ⟨by omega, by rw [c38]; rfl, mt_fr (w := va_up w 29 (mdO ad (sN S : Int) ru ro sp nr ns 0 se fa so)) ⟨sg, fs, sn, wt, pl, dp, ho, rfl, hw30, hw31, hw32, hw33, hw34, hw35, hw36, hA⟩ (fun k a b => hfr k (by omega) (by omega) (by omega) (by omega)), hSA', fun k h29 a b c d => (hfr k a b c d).trans (va_ne h29)⟩ | exact Or.inr ⟨by omega, rfl, rfl⟩⟩ (by decide) (by decide) d_Md_above_46
  · skip
    have b6 : (0 ≤ x ∧ x < (sN S : Int)) := of_decide_eq_true c6
    refine xr_aload_n C 0 d_Md_above_9 rfl rfl ?_
    refine xr_iload_n C 2 d_Md_above_10 rfl rfl ?_
    refine xr_callV (k9 := 29) C (m_Md_isTree hw29 (by omega) (x := y) (by omega)) xm_Md_109 x2_Md_isTree hw29 (by decide) rfl (by decide) (by decide) (Nat.le_of_ble_eq_true rfl) rfl d_Md_above_11 (fun En n9 ad9 w9 hx9 => hx9.elim) (fun v n9 ad9 w9 hp => ?_)
    obtain ⟨rfl, rfl, rfl, rfl⟩ := hp
    show XW _ _ _ _ _ _ 14 _ (_ :: _)
    refine xb_if_eq (tgt := 21) C d_Md_above_14 (by decide)  (fun c14 => ?_) (fun c14 => ?_)
    · skip
      have b14 : ¬ (0 ≤ y ∧ y < (sN S : Int)) := of_decide_eq_false c14
      refine xr_iconst C d_Md_above_21 ?_
      refine xr_put (k := 29) C xf_Md_86 hw29 (by decide) rfl rfl (Nat.le_of_ble_eq_true rfl) d_Md_above_22 ?_
      refine xr_aload_n C 0 d_Md_above_25 rfl rfl ?_
      refine xr_get (k := 29) C xg_Md_86 rfl (by decide) rfl d_Md_above_26 ?_
      refine xz_if_ne (tgt := 45) C d_Md_above_29 (by decide) (by omega) (fun c29 => ?_) (fun c29 => by exfalso; omega)
      refine xr_iconst C d_Md_above_45 ?_
      exact xr_zret C E (by omega) ⟨rfl, rfl, _, rfl, by first | exact Or.inl ⟨by omega, by rw [c38]; rfl, mt_fr (w := va_up w 29 (mdO ad (sN S : Int) ru ro sp nr ns 0 se fa so)) ⟨sg, fs, sn, wt, pl, dp, ho, rfl, hw30, hw31, hw32, hw33, hw34, hw35, hw36, hA⟩ (fun k a b => hfr k (by omega) (by omega) (by omega) (by omega)), hSA', fun k h29 a b c d => (hfr k a b c d).trans (va_ne h29)⟩ | exact Or.inr ⟨by omega, rfl, rfl⟩⟩ (by decide) (by decide) d_Md_above_46
    · skip
      have b14 : (0 ≤ y ∧ y < (sN S : Int)) := of_decide_eq_true c14
      refine xr_iconst C d_Md_above_17 ?_
      refine xr_goto (tgt := 22) C d_Md_above_18 (by decide) ?_
      refine xr_put (k := 29) C xf_Md_86 hw29 (by decide) rfl rfl (Nat.le_of_ble_eq_true rfl) d_Md_above_22 ?_
      refine xr_aload_n C 0 d_Md_above_25 rfl rfl ?_
      refine xr_get (k := 29) C xg_Md_86 rfl (by decide) rfl d_Md_above_26 ?_
      refine xz_if_ne (tgt := 45) C d_Md_above_29 (by decide) (by omega) (fun c29 => by exfalso; omega) (fun c29 => ?_)
      refine xr_aload_n C 0 d_Md_above_32 rfl rfl ?_
      refine xr_iload_n C 1 d_Md_above_33 rfl rfl ?_
      refine xr_eqz (y := ((x.toNat : Nat) : Int)) (by omega) ?_
      refine xr_iload_n C 2 d_Md_above_34 rfl rfl ?_
      refine xr_eqz (y := ((y.toNat : Nat) : Int)) (by omega) ?_
      refine xr_callV (k9 := 29) C (m_Md_isAbove (w := va_up w 29 (mdO ad (sN S : Int) ru ro sp nr ns 0 se fa so)) (S := S) (th := 0) ⟨sg, fs, sn, wt, pl, dp, ho, rfl, hw30, hw31, hw32, hw33, hw34, hw35, hw36, hA⟩ hT (x0 := x.toNat) (y0 := y.toNat) (by omega) (by omega) hSA) xm_Md_138 x2_Md_isAbove rfl (by decide) rfl (by decide) (by decide) (Nat.le_of_ble_eq_true rfl) rfl d_Md_above_35 (fun En n9 ad9 w9 hx9 => hx9.elim) (fun v n9 ad9 w9 hp => ?_)
      obtain ⟨rfl, rfl, v, rfl, rfl, hSA', hfr⟩ := hp
      show XW _ _ _ _ _ _ 38 _ (_ :: _)
      refine xb_if_eq (tgt := 45) C d_Md_above_38 (by decide)  (fun c38 => ?_) (fun c38 => ?_)
      · skip
        refine xr_iconst C d_Md_above_45 ?_
        exact xr_zret C E (by omega) ⟨rfl, rfl, _, rfl, by first | exact Or.inl ⟨by omega, by rw [c38]; rfl, mt_fr (w := va_up w 29 (mdO ad (sN S : Int) ru ro sp nr ns 0 se fa so)) ⟨sg, fs, sn, wt, pl, dp, ho, rfl, hw30, hw31, hw32, hw33, hw34, hw35, hw36, hA⟩ (fun k a b => hfr k (by omega) (by omega) (by omega) (by omega)), hSA', fun k h29 a b c d => (hfr k a b c d).trans (va_ne h29)⟩ | exact Or.inr ⟨by omega, rfl, rfl⟩⟩ (by decide) (by decide) d_Md_above_46
      · skip
        refine xr_iconst C d_Md_above_41 ?_
        refine xr_goto (tgt := 46) C d_Md_above_42 (by decide) ?_
        exact xr_zret C E (by omega) ⟨rfl, rfl, _, rfl, by first | exact Or.inl ⟨by omega, by rw [c38]; rfl, mt_fr (w := va_up w 29 (mdO ad (sN S : Int) ru ro sp nr ns 0 se fa so)) ⟨sg, fs, sn, wt, pl, dp, ho, rfl, hw30, hw31, hw32, hw33, hw34, hw35, hw36, hA⟩ (fun k a b => hfr k (by omega) (by omega) (by omega) (by omega)), hSA', fun k h29 a b c d => (hfr k a b c d).trans (va_ne h29)⟩ | exact Or.inr ⟨by omega, rfl, rfl⟩⟩ (by decide) (by decide) d_Md_above_46
set_option maxHeartbeats 4000000 in
set_option maxRecDepth 100000 in
theorem m_Md_lessens {L : Launch} {D : va_G} {cA : Nat → ClassId} {base : Nat} {ad : Nat → Nat} {w : Nat → va_E} {S : xS} {ru ro sp nr ns th : Int} {se fa so : Bool} (hMT : MT ad cA w S ru ro sp nr ns th se fa so) (hT : Tb S) (hSA : SA cA w) {rl rr : Nat → Int} (hw37 : w 37 = xIA (cA 0) 16 rl) (hw38 : w 38 = xIA (cA 0) 16 rr) (hru : 0 ≤ ru ∧ ru ≤ 16) (hrl : ∀ j : Nat, (j : Int) < ru → 0 ≤ rl j ∧ rl j < sN S) (hrr : ∀ j : Nat, (j : Int) < ru → 0 ≤ rr j ∧ rr j < sN S) {x : Int} (hx : -2147483648 ≤ x ∧ x < 2147483648) : XM L D cA base y_Md_lessens c_Md_lessens 2 (some .boolean) (xrm 5 0 0) [.ref (ad 29), .int (zI x)] 56 ad w (xRet 56 ad (fun z w' => ((0 ≤ x ∧ x < ru) ∧ z = xb (abv S (rl x.toNat).toNat (rr x.toNat).toNat) ∧ MT ad cA w' S ru ro sp nr ns 0 se fa so ∧ SA cA w' ∧ (∀ k, k ≠ 29 → k ≠ 46 → k ≠ 47 → k ≠ 50 → k ≠ 51 → w' k = w k)) ∨ (¬ (0 ≤ x ∧ x < ru) ∧ z = 0 ∧ w' = va_up w 29 (mdO ad (sN S : Int) ru ro sp nr ns 1 se fa so)))) xF := by
  refine xm_of (by decide +kernel) (by simp [Value.category]) (Nat.le_of_ble_eq_true rfl) (fun G C E _ => ?_)
  obtain ⟨sg, fs, sn, wt, pl, dp, ho, hw29, hw30, hw31, hw32, hw33, hw34, hw35, hw36, hA⟩ := hMT
  have hN := hT.1
  refine xr_aload_n C 0 d_Md_lessens_0 rfl rfl ?_
  refine xr_aload_n C 0 d_Md_lessens_1 rfl rfl ?_
  refine xr_iload_n C 1 d_Md_lessens_2 rfl rfl ?_
  refine xr_callV (k9 := 29) C (m_Md_isRule hw29 hru (x := x) (by omega)) xm_Md_132 x2_Md_isRule hw29 (by decide) rfl (by decide) (by decide) (Nat.le_of_ble_eq_true rfl) rfl d_Md_lessens_3 (fun En n9 ad9 w9 hx9 => hx9.elim) (fun v n9 ad9 w9 hp => ?_)
  obtain ⟨rfl, rfl, rfl, rfl⟩ := hp
  show XW _ _ _ _ _ _ 6 _ (_ :: _)
  refine xb_if_eq (tgt := 13) C d_Md_lessens_6 (by decide)  (fun c6 => ?_) (fun c6 => ?_)
  · skip
    have b6 : ¬ (0 ≤ x ∧ x < ru) := of_decide_eq_false c6
    refine xr_iconst C d_Md_lessens_13 ?_
    refine xr_put (k := 29) C xf_Md_86 hw29 (by decide) rfl rfl (Nat.le_of_ble_eq_true rfl) d_Md_lessens_14 ?_
    refine xr_aload_n C 0 d_Md_lessens_17 rfl rfl ?_
    refine xr_get (k := 29) C xg_Md_86 rfl (by decide) rfl d_Md_lessens_18 ?_
    refine xz_if_ne (tgt := 47) C d_Md_lessens_21 (by decide) (by omega) (fun c21 => ?_) (fun c21 => by exfalso; omega)
    refine xr_iconst C d_Md_lessens_47 ?_
    exact xr_zret C E (by omega) ⟨rfl, rfl, _, rfl, by first | exact Or.inl ⟨by omega, by rw [c40]; rfl, mt_fr (w := va_up w 29 (mdO ad (sN S : Int) ru ro sp nr ns 0 se fa so)) ⟨sg, fs, sn, wt, pl, dp, ho, rfl, hw30, hw31, hw32, hw33, hw34, hw35, hw36, hA⟩ (fun k a b => hfr k (by omega) (by omega) (by omega) (by omega)), hSA', fun k h29 a b c d => (hfr k a b c d).trans (va_ne h29)⟩ | exact Or.inr ⟨by omega, rfl, rfl⟩⟩ (by decide) (by decide) d_Md_lessens_48
  · skip
    have b6 : (0 ≤ x ∧ x < ru) := of_decide_eq_true c6
    refine xr_iconst C d_Md_lessens_9 ?_
    refine xr_goto (tgt := 14) C d_Md_lessens_10 (by decide) ?_
    refine xr_put (k := 29) C xf_Md_86 hw29 (by decide) rfl rfl (Nat.le_of_ble_eq_true rfl) d_Md_lessens_14 ?_
    refine xr_aload_n C 0 d_Md_lessens_17 rfl rfl ?_
    refine xr_get (k := 29) C xg_Md_86 rfl (by decide) rfl d_Md_lessens_18 ?_
    refine xz_if_ne (tgt := 47) C d_Md_lessens_21 (by decide) (by omega) (fun c21 => by exfalso; omega) (fun c21 => ?_)
    refine xr_aload_n C 0 d_Md_lessens_24 rfl rfl ?_
    refine xr_aload_n C 0 d_Md_lessens_25 rfl rfl ?_
    refine xr_get (k := 29) C xg_Md_31 rfl (by decide) rfl d_Md_lessens_26 ?_
    refine xr_iload_n C 1 d_Md_lessens_29 rfl rfl ?_
    have hl9 := hrl x.toNat (by omega)
    have hr9 := hrr x.toNat (by omega)
    refine xz_iald (k := 37) C hw37 (by decide) (by omega) (by decide) d_Md_lessens_30 ?_
    refine xr_eqz (y := (((rl x.toNat).toNat : Nat) : Int)) (by omega) ?_
    refine xr_aload_n C 0 d_Md_lessens_31 rfl rfl ?_
    refine xr_get (k := 29) C xg_Md_34 rfl (by decide) rfl d_Md_lessens_32 ?_
    refine xr_iload_n C 1 d_Md_lessens_35 rfl rfl ?_
    refine xz_iald (k := 38) C hw38 (by decide) (by omega) (by decide) d_Md_lessens_36 ?_
    refine xr_eqz (y := (((rr x.toNat).toNat : Nat) : Int)) (by omega) ?_
    refine xr_callV (k9 := 29) C (m_Md_isAbove (w := va_up w 29 (mdO ad (sN S : Int) ru ro sp nr ns 0 se fa so)) (S := S) (th := 0) ⟨sg, fs, sn, wt, pl, dp, ho, rfl, hw30, hw31, hw32, hw33, hw34, hw35, hw36, hA⟩ hT (x0 := (rl x.toNat).toNat) (y0 := (rr x.toNat).toNat) (by omega) (by omega) hSA) xm_Md_138 x2_Md_isAbove rfl (by decide) rfl (by decide) (by decide) (Nat.le_of_ble_eq_true rfl) rfl d_Md_lessens_37 (fun En n9 ad9 w9 hx9 => hx9.elim) (fun v n9 ad9 w9 hp => ?_)
    obtain ⟨rfl, rfl, v, rfl, rfl, hSA', hfr⟩ := hp
    show XW _ _ _ _ _ _ 40 _ (_ :: _)
    refine xb_if_eq (tgt := 47) C d_Md_lessens_40 (by decide)  (fun c40 => ?_) (fun c40 => ?_)
    · skip
      refine xr_iconst C d_Md_lessens_47 ?_
      exact xr_zret C E (by omega) ⟨rfl, rfl, _, rfl, by first | exact Or.inl ⟨by omega, by rw [c40]; rfl, mt_fr (w := va_up w 29 (mdO ad (sN S : Int) ru ro sp nr ns 0 se fa so)) ⟨sg, fs, sn, wt, pl, dp, ho, rfl, hw30, hw31, hw32, hw33, hw34, hw35, hw36, hA⟩ (fun k a b => hfr k (by omega) (by omega) (by omega) (by omega)), hSA', fun k h29 a b c d => (hfr k a b c d).trans (va_ne h29)⟩ | exact Or.inr ⟨by omega, rfl, rfl⟩⟩ (by decide) (by decide) d_Md_lessens_48
    · skip
      refine xr_iconst C d_Md_lessens_43 ?_
      refine xr_goto (tgt := 48) C d_Md_lessens_44 (by decide) ?_
      exact xr_zret C E (by omega) ⟨rfl, rfl, _, rfl, by first | exact Or.inl ⟨by omega, by rw [c40]; rfl, mt_fr (w := va_up w 29 (mdO ad (sN S : Int) ru ro sp nr ns 0 se fa so)) ⟨sg, fs, sn, wt, pl, dp, ho, rfl, hw30, hw31, hw32, hw33, hw34, hw35, hw36, hA⟩ (fun k a b => hfr k (by omega) (by omega) (by omega) (by omega)), hSA', fun k h29 a b c d => (hfr k a b c d).trans (va_ne h29)⟩ | exact Or.inr ⟨by omega, rfl, rfl⟩⟩ (by decide) (by decide) d_Md_lessens_48
set_option maxHeartbeats 4000000 in
set_option maxRecDepth 100000 in
theorem m_Md_at {L : Launch} {D : va_G} {cA : Nat → ClassId} {base : Nat} {ad : Nat → Nat} {w : Nat → va_E} {S : xS} {ru ro sp nr ns th : Int} {se fa so : Bool} (hMT : MT ad cA w S ru ro sp nr ns th se fa so) (hT : Tb S) {td0 f0 : Nat → Int} (hw47 : w 47 = xIA (cA 0) 1100 td0) (hw44 : w 44 = xIA (cA 0) 1001 f0) {x : Int} (hx : -2147483648 ≤ x ∧ x < 2147483648) {y : Int} (hy : -2147483648 ≤ y ∧ y < 2147483648) : XM L D cA base y_Md_at c_Md_at 4 (some .int) (xrm 3 0 0) [.ref (ad 29), .int (zI x), .int (zI y)] 56 ad w (xRet 56 ad (fun z w' => ((0 ≤ x ∧ x < (sN S : Int)) ∧ z = atS S x.toNat y ∧ MT ad cA w' S ru ro sp nr ns 0 se fa so ∧ (∃ f, w' 44 = xIA (cA 0) 1001 f) ∧ (∃ f, w' 47 = xIA (cA 0) 1100 f) ∧ (∀ k, k ≠ 29 → k ≠ 47 → k ≠ 44 → w' k = w k)) ∨ (¬ (0 ≤ x ∧ x < (sN S : Int)) ∧ z = 0 ∧ w' = va_up w 29 (mdO ad (sN S : Int) ru ro sp nr ns 1 se fa so)))) xF := by
  refine xm_of (by decide +kernel) (by simp [Value.category]) (Nat.le_of_ble_eq_true rfl) (fun G C E _ => ?_)
  obtain ⟨sg, fs, sn, wt, pl, dp, ho, hw29, hw30, hw31, hw32, hw33, hw34, hw35, hw36, hA⟩ := hMT
  have hN := hT.1
  refine xr_aload_n C 0 d_Md_at_0 rfl rfl ?_
  refine xr_aload_n C 0 d_Md_at_1 rfl rfl ?_
  refine xr_iload_n C 1 d_Md_at_2 rfl rfl ?_
  refine xr_callV (k9 := 29) C (m_Md_isTree hw29 (by omega) (x := x) (by omega)) xm_Md_109 x2_Md_isTree hw29 (by decide) rfl (by decide) (by decide) (Nat.le_of_ble_eq_true rfl) rfl d_Md_at_3 (fun En n9 ad9 w9 hx9 => hx9.elim) (fun v n9 ad9 w9 hp => ?_)
  obtain ⟨rfl, rfl, rfl, rfl⟩ := hp
  show XW _ _ _ _ _ _ 6 _ (_ :: _)
  refine xb_if_eq (tgt := 13) C d_Md_at_6 (by decide)  (fun c6 => ?_) (fun c6 => ?_)
  · skip
    have b6 : ¬ (0 ≤ x ∧ x < (sN S : Int)) := of_decide_eq_false c6
    refine xr_iconst C d_Md_at_13 ?_
    refine xr_put (k := 29) C xf_Md_86 hw29 (by decide) rfl rfl (Nat.le_of_ble_eq_true rfl) d_Md_at_14 ?_
    refine xr_aload_n C 0 d_Md_at_17 rfl rfl ?_
    refine xr_get (k := 29) C xg_Md_86 rfl (by decide) rfl d_Md_at_18 ?_
    refine xz_if_eq (tgt := 26) C d_Md_at_21 (by decide) (by omega) (fun c21 => by exfalso; omega) (fun c21 => ?_)
    refine xr_iconst C d_Md_at_24 ?_
    exact xr_iret C E ⟨rfl, rfl, _, rfl, Or.inr ⟨by omega, rfl, rfl⟩⟩ (by decide) (by decide) d_Md_at_25
  · skip
    have b6 : (0 ≤ x ∧ x < (sN S : Int)) := of_decide_eq_true c6
    refine xr_iconst C d_Md_at_9 ?_
    refine xr_goto (tgt := 14) C d_Md_at_10 (by decide) ?_
    refine xr_put (k := 29) C xf_Md_86 hw29 (by decide) rfl rfl (Nat.le_of_ble_eq_true rfl) d_Md_at_14 ?_
    refine xr_aload_n C 0 d_Md_at_17 rfl rfl ?_
    refine xr_get (k := 29) C xg_Md_86 rfl (by decide) rfl d_Md_at_18 ?_
    refine xz_if_eq (tgt := 26) C d_Md_at_21 (by decide) (by omega) (fun c21 => ?_) (fun c21 => by exfalso; omega)
    refine xr_aload_n C 0 d_Md_at_26 rfl rfl ?_
    refine xr_iload_n C 1 d_Md_at_27 rfl rfl ?_
    refine xr_eqz (y := ((x.toNat : Nat) : Int)) (by omega) ?_
    refine xr_aload_n C 0 d_Md_at_28 rfl rfl ?_
    refine xr_get (k := 29) C xg_Md_53 rfl (by decide) rfl d_Md_at_29 ?_
    refine xr_iconst C d_Md_at_32 ?_
    show XW _ _ _ _ _ _ _ _ (.int (zI (xb false)) :: _)
    refine xr_callV (k9 := 29) C (m_Md_lay_44 (w := va_up w 29 (mdO ad (sN S : Int) ru ro sp nr ns 0 se fa so)) (t := x.toNat) (S := S) (th := 0) ⟨sg, fs, sn, wt, pl, dp, ho, rfl, hw30, hw31, hw32, hw33, hw34, hw35, hw36, hA⟩ hT (by omega) hw47 hw44) xm_Md_117 x2_Md_lay rfl (by decide) rfl (by decide) (by decide) (Nat.le_of_ble_eq_true rfl) rfl d_Md_at_33 (fun En n9 ad9 w9 hx9 => hx9.elim) (fun v n9 ad9 w9 hp => ?_)
    obtain ⟨rfl, rfl, v, rfl, rfl, td, g9, hw47', hw44', hfr', hDN⟩ := hp
    have hw29 : w9 29 = mdO ad (sN S : Int) ru ro sp nr ns 0 se fa so := (hfr' 29 (by decide) (by decide)).trans va_eq
    have hw44 := hw44'
    have hlt := lyS_len hT (j := x.toNat) (by omega)
    have hpt := (hT.2.1 x.toNat (by omega)).2.2.2.2.2
    show XW _ _ _ _ _ _ 36 _ (_ :: _)
    refine xr_istore_n C 3 d_Md_at_36 rfl (by decide) ?_
    refine xr_iload_n C 2 d_Md_at_37 rfl rfl ?_
    refine xz_if_lt (tgt := 46) C d_Md_at_38 (by decide) (by omega) (fun c38 => ?_) (fun c38 => ?_)
    · skip
      refine xr_iconst C d_Md_at_46 ?_
      refine xr_goto (tgt := 56) C d_Md_at_47 (by decide) ?_
      exact xr_iret C E ⟨rfl, rfl, _, rfl, Or.inl ⟨by omega, by
        first
        | (unfold atS; rw [if_neg (by omega)])
        | (have hyy : (lyS S x.toNat)[y.toNat]? = some ((lyS S x.toNat)[y.toNat]'(by omega)) := List.getElem?_eq_getElem _
           rw [atS_in hT (by omega) (by omega) hyy]
           exact hDN _ _ hyy), mt_fr (w := va_up w 29 (mdO ad (sN S : Int) ru ro sp nr ns 0 se fa so)) ⟨sg, fs, sn, wt, pl, dp, ho, rfl, hw30, hw31, hw32, hw33, hw34, hw35, hw36, hA⟩ (fun k a b => hfr' k (by omega) (by omega)), ⟨g9, hw44'⟩, ⟨td, hw47'⟩, fun k a b c => (hfr' k b c).trans (va_ne a)⟩⟩ (by decide) (by decide) d_Md_at_56
    · skip
      refine xr_iload_n C 2 d_Md_at_41 rfl rfl ?_
      refine xr_iload_n C 3 d_Md_at_42 rfl rfl ?_
      refine xz_icmp_lt (tgt := 50) C d_Md_at_43 (by decide) (by omega) (by omega) (fun c43 => ?_) (fun c43 => ?_)
      · skip
        refine xr_aload_n C 0 d_Md_at_50 rfl rfl ?_
        refine xr_get (k := 29) C xg_Md_53 hw29 (by decide) rfl d_Md_at_51 ?_
        refine xr_iload_n C 2 d_Md_at_54 rfl rfl ?_
        refine xz_iald (k := 44) C hw44 (by decide) (by omega) (by decide) d_Md_at_55 ?_
        exact xr_iret C E ⟨rfl, rfl, _, rfl, Or.inl ⟨by omega, by
          first
          | (unfold atS; rw [if_neg (by omega)])
          | (have hyy : (lyS S x.toNat)[y.toNat]? = some ((lyS S x.toNat)[y.toNat]'(by omega)) := List.getElem?_eq_getElem _
             rw [atS_in hT (by omega) (by omega) hyy]
             exact hDN _ _ hyy), mt_fr (w := va_up w 29 (mdO ad (sN S : Int) ru ro sp nr ns 0 se fa so)) ⟨sg, fs, sn, wt, pl, dp, ho, rfl, hw30, hw31, hw32, hw33, hw34, hw35, hw36, hA⟩ (fun k a b => hfr' k (by omega) (by omega)), ⟨g9, hw44'⟩, ⟨td, hw47'⟩, fun k a b c => (hfr' k b c).trans (va_ne a)⟩⟩ (by decide) (by decide) d_Md_at_56
      · skip
        refine xr_iconst C d_Md_at_46 ?_
        refine xr_goto (tgt := 56) C d_Md_at_47 (by decide) ?_
        exact xr_iret C E ⟨rfl, rfl, _, rfl, Or.inl ⟨by omega, by
          first
          | (unfold atS; rw [if_neg (by omega)])
          | (have hyy : (lyS S x.toNat)[y.toNat]? = some ((lyS S x.toNat)[y.toNat]'(by omega)) := List.getElem?_eq_getElem _
             rw [atS_in hT (by omega) (by omega) hyy]
             exact hDN _ _ hyy), mt_fr (w := va_up w 29 (mdO ad (sN S : Int) ru ro sp nr ns 0 se fa so)) ⟨sg, fs, sn, wt, pl, dp, ho, rfl, hw30, hw31, hw32, hw33, hw34, hw35, hw36, hA⟩ (fun k a b => hfr' k (by omega) (by omega)), ⟨g9, hw44'⟩, ⟨td, hw47'⟩, fun k a b c => (hfr' k b c).trans (va_ne a)⟩⟩ (by decide) (by decide) d_Md_at_56
theorem wswap5 {w : Nat → va_E} {a b c d e f : va_E} : va_up (va_up (va_up (va_up (va_up (va_up w 29 a) 37 b) 38 c) 39 d) 40 e) 29 f = va_up (va_up (va_up (va_up (va_up w 37 b) 38 c) 39 d) 40 e) 29 f := by
  funext k
  by_cases h : k = 29
  · subst h; rw [va_eq, va_eq]
  · rw [va_ne h, va_ne h]
    by_cases h1 : k = 40
    · subst h1; rw [va_eq, va_eq]
    · rw [va_ne h1, va_ne h1]
      by_cases h2 : k = 39
      · subst h2; rw [va_eq, va_eq]
      · rw [va_ne h2, va_ne h2]
        by_cases h3 : k = 38
        · subst h3; rw [va_eq, va_eq]
        · rw [va_ne h3, va_ne h3]
          by_cases h4 : k = 37
          · subst h4; rw [va_eq, va_eq]
          · rw [va_ne h4, va_ne h4, va_ne h]
set_option maxHeartbeats 4000000 in
set_option maxRecDepth 100000 in
theorem m_Md_rule {L : Launch} {D : va_G} {cA : Nat → ClassId} {base : Nat} {ad : Nat → Nat} {w : Nat → va_E} {S : xS} {n : Nat} {ro sp nr ns th : Int} {se fa so : Bool} (hMT : MT ad cA w S (n : Int) ro sp nr ns th se fa so) (hT : Tb S) {rl rr co ch : Nat → Int} (hn : n ≤ 16) (hw37 : w 37 = xIA (cA 0) 16 rl) (hw38 : w 38 = xIA (cA 0) 16 rr) (hw39 : w 39 = xIA (cA 0) 16 co) (hw40 : w 40 = xIA (cA 1) 16 ch) {x : Int} (hx : -2147483648 ≤ x ∧ x < 2147483648) {y : Int} (hy : -2147483648 ≤ y ∧ y < 2147483648) {u : Int} (hu : -2147483648 ≤ u ∧ u < 2147483648) : XM L D cA base y_Md_rule c_Md_rule 4 (some .int) (xrm 1 0 0) [.ref (ad 29), .int (zI x), .int (zI y), .int (zI u)] 56 ad w (xRet 56 ad (fun z w' => (((0 ≤ x ∧ x < (sN S : Int)) ∧ (0 ≤ y ∧ y < (sN S : Int))) ∧ (sSg S x.toNat < 100 ∧ nmk (sHo S y.toNat) (sHo S x.toNat) = 0 ∧ -1 ≤ u ∧ u < 10) ∧ ((n < 16 ∧ z = (n : Int) ∧ w' = va_up (va_up (va_up (va_up (va_up w 37 (xIA (cA 0) 16 (va_up rl n x))) 38 (xIA (cA 0) 16 (va_up rr n y))) 39 (xIA (cA 0) 16 (va_up co n u))) 40 (xIA (cA 1) 16 (va_up ch n 1))) 29 (mdO ad (sN S : Int) ((n : Int) + 1) ro sp nr ns 0 se fa so)) ∨ (¬ n < 16 ∧ z = -1 ∧ w' = va_up w 29 (mdO ad (sN S : Int) (n : Int) ro sp nr ns 0 se fa so)))) ∨ (¬ ((0 ≤ x ∧ x < (sN S : Int)) ∧ (0 ≤ y ∧ y < (sN S : Int))) ∧ z = 0 ∧ w' = va_up w 29 (mdO ad (sN S : Int) (n : Int) ro sp nr ns 1 se fa so)) ∨ (((0 ≤ x ∧ x < (sN S : Int)) ∧ (0 ≤ y ∧ y < (sN S : Int))) ∧ ¬ (sSg S x.toNat < 100 ∧ nmk (sHo S y.toNat) (sHo S x.toNat) = 0 ∧ -1 ≤ u ∧ u < 10) ∧ z = 0 ∧ w' = va_up w 29 (mdO ad (sN S : Int) (n : Int) ro sp nr ns 2 se fa so)))) xF := by
  refine xm_of (by decide +kernel) (by simp [Value.category]) (Nat.le_of_ble_eq_true rfl) (fun G C E _ => ?_)
  obtain ⟨sg, fs, sn, wt, pl, dp, ho, hw29, hw30, hw31, hw32, hw33, hw34, hw35, hw36, hA⟩ := hMT
  have hN := hT.1
  refine xr_aload_n C 0 d_Md_rule_0 rfl rfl ?_
  refine xr_aload_n C 0 d_Md_rule_1 rfl rfl ?_
  refine xr_iload_n C 1 d_Md_rule_2 rfl rfl ?_
  refine xr_callV (k9 := 29) C (m_Md_isTree hw29 (by omega) (x := x) (by omega)) xm_Md_109 x2_Md_isTree hw29 (by decide) rfl (by decide) (by decide) (Nat.le_of_ble_eq_true rfl) rfl d_Md_rule_3 (fun En n9 ad9 w9 hx9 => hx9.elim) (fun v n9 ad9 w9 hp => ?_)
  obtain ⟨rfl, rfl, rfl, rfl⟩ := hp
  show XW _ _ _ _ _ _ 6 _ (_ :: _)
  refine xb_if_eq (tgt := 17) C d_Md_rule_6 (by decide)  (fun c6 => ?_) (fun c6 => ?_)
  · skip
    have b6 : ¬ (0 ≤ x ∧ x < (sN S : Int)) := of_decide_eq_false c6
    refine xr_iconst C d_Md_rule_17 ?_
    refine xr_goto (tgt := 66) C d_Md_rule_18 (by decide) ?_
    refine xr_put (k := 29) C xf_Md_86 hw29 (by decide) rfl rfl (Nat.le_of_ble_eq_true rfl) d_Md_rule_66 ?_
    refine xr_aload_n C 0 d_Md_rule_69 rfl rfl ?_
    refine xr_get (k := 29) C xg_Md_86 rfl (by decide) rfl d_Md_rule_70 ?_
    refine xz_if_eq (tgt := 78) C d_Md_rule_73 (by decide) (by omega) (fun c73 => by exfalso; omega) (fun c73 => ?_)
    refine xr_iconst C d_Md_rule_76 ?_
    exact xr_iret C E ⟨rfl, rfl, _, rfl, by first | exact Or.inr (Or.inl ⟨by omega, rfl, rfl⟩) | exact Or.inr (Or.inr ⟨by omega, by omega, rfl, rfl⟩)⟩ (by decide) (by decide) d_Md_rule_77
  · skip
    have b6 : (0 ≤ x ∧ x < (sN S : Int)) := of_decide_eq_true c6
    refine xr_aload_n C 0 d_Md_rule_9 rfl rfl ?_
    refine xr_iload_n C 2 d_Md_rule_10 rfl rfl ?_
    refine xr_callV (k9 := 29) C (m_Md_isTree hw29 (by omega) (x := y) (by omega)) xm_Md_109 x2_Md_isTree hw29 (by decide) rfl (by decide) (by decide) (Nat.le_of_ble_eq_true rfl) rfl d_Md_rule_11 (fun En n9 ad9 w9 hx9 => hx9.elim) (fun v n9 ad9 w9 hp => ?_)
    obtain ⟨rfl, rfl, rfl, rfl⟩ := hp
    show XW _ _ _ _ _ _ 14 _ (_ :: _)
    refine xb_if_ne (tgt := 21) C d_Md_rule_14 (by decide)  (fun c14 => ?_) (fun c14 => ?_)
    · skip
      have b14 : (0 ≤ y ∧ y < (sN S : Int)) := of_decide_eq_true c14
      obtain ⟨m1, -, -, -, -, -, mh⟩ := hA.1 x.toNat (by omega)
      have my := (hA.1 y.toNat (by omega)).2.2.2.2.2.2
      have rx := hA.2 x.toNat
      have hnm := nmk_in (sHo S y.toNat) (sHo S x.toNat)
      refine xr_aload_n C 0 d_Md_rule_21 rfl rfl ?_
      refine xr_get (k := 29) C xg_Md_7 hw29 (by decide) rfl d_Md_rule_22 ?_
      refine xr_iload_n C 1 d_Md_rule_25 rfl rfl ?_
      refine xz_iald (k := 30) C hw30 (by decide) (by omega) (by decide) d_Md_rule_26 ?_
      refine xr_bipush C d_Md_rule_27 (by decide) ?_
      refine xz_icmp_ge (tgt := 61) C d_Md_rule_29 (by decide) (by omega) (by omega) (fun c29 => ?_) (fun c29 => ?_)
      · skip
        refine xr_iconst C d_Md_rule_61 ?_
        refine xr_goto (tgt := 66) C d_Md_rule_62 (by decide) ?_
        refine xr_put (k := 29) C xf_Md_86 hw29 (by decide) rfl rfl (Nat.le_of_ble_eq_true rfl) d_Md_rule_66 ?_
        refine xr_aload_n C 0 d_Md_rule_69 rfl rfl ?_
        refine xr_get (k := 29) C xg_Md_86 rfl (by decide) rfl d_Md_rule_70 ?_
        refine xz_if_eq (tgt := 78) C d_Md_rule_73 (by decide) (by omega) (fun c73 => by exfalso; omega) (fun c73 => ?_)
        refine xr_iconst C d_Md_rule_76 ?_
        exact xr_iret C E ⟨rfl, rfl, _, rfl, by first | exact Or.inr (Or.inl ⟨by omega, rfl, rfl⟩) | exact Or.inr (Or.inr ⟨by omega, by omega, rfl, rfl⟩)⟩ (by decide) (by decide) d_Md_rule_77
      · skip
        refine xr_aload_n C 0 d_Md_rule_32 rfl rfl ?_
        refine xr_get (k := 29) C xg_Md_28 hw29 (by decide) rfl d_Md_rule_33 ?_
        refine xr_iload_n C 2 d_Md_rule_36 rfl rfl ?_
        refine xz_iald (k := 36) C hw36 (by decide) (by omega) (by decide) d_Md_rule_37 ?_
        refine xr_aload_n C 0 d_Md_rule_38 rfl rfl ?_
        refine xr_get (k := 29) C xg_Md_28 hw29 (by decide) rfl d_Md_rule_39 ?_
        refine xr_iload_n C 1 d_Md_rule_42 rfl rfl ?_
        refine xz_iald (k := 36) C hw36 (by decide) (by omega) (by decide) d_Md_rule_43 ?_
        refine xr_iconst C d_Md_rule_44 ?_
        refine xr_ixor C d_Md_rule_45 ?_
        refine xr_iand C d_Md_rule_46 ?_
        rw [my, mh, zI_nmk]
        refine xz_if_ne (tgt := 61) C d_Md_rule_47 (by decide) (by omega) (fun c47 => ?_) (fun c47 => ?_)
        · skip
          refine xr_iconst C d_Md_rule_61 ?_
          refine xr_goto (tgt := 66) C d_Md_rule_62 (by decide) ?_
          refine xr_put (k := 29) C xf_Md_86 hw29 (by decide) rfl rfl (Nat.le_of_ble_eq_true rfl) d_Md_rule_66 ?_
          refine xr_aload_n C 0 d_Md_rule_69 rfl rfl ?_
          refine xr_get (k := 29) C xg_Md_86 rfl (by decide) rfl d_Md_rule_70 ?_
          refine xz_if_eq (tgt := 78) C d_Md_rule_73 (by decide) (by omega) (fun c73 => by exfalso; omega) (fun c73 => ?_)
          refine xr_iconst C d_Md_rule_76 ?_
          exact xr_iret C E ⟨rfl, rfl, _, rfl, by first | exact Or.inr (Or.inl ⟨by omega, rfl, rfl⟩) | exact Or.inr (Or.inr ⟨by omega, by omega, rfl, rfl⟩)⟩ (by decide) (by decide) d_Md_rule_77
        · skip
          refine xr_iload_n C 3 d_Md_rule_50 rfl rfl ?_
          refine xr_iconst C d_Md_rule_51 ?_
          refine xz_icmp_lt (tgt := 61) C d_Md_rule_52 (by decide) (by omega) (by omega) (fun c52 => ?_) (fun c52 => ?_)
          · skip
            refine xr_iconst C d_Md_rule_61 ?_
            refine xr_goto (tgt := 66) C d_Md_rule_62 (by decide) ?_
            refine xr_put (k := 29) C xf_Md_86 hw29 (by decide) rfl rfl (Nat.le_of_ble_eq_true rfl) d_Md_rule_66 ?_
            refine xr_aload_n C 0 d_Md_rule_69 rfl rfl ?_
            refine xr_get (k := 29) C xg_Md_86 rfl (by decide) rfl d_Md_rule_70 ?_
            refine xz_if_eq (tgt := 78) C d_Md_rule_73 (by decide) (by omega) (fun c73 => by exfalso; omega) (fun c73 => ?_)
            refine xr_iconst C d_Md_rule_76 ?_
            exact xr_iret C E ⟨rfl, rfl, _, rfl, by first | exact Or.inr (Or.inl ⟨by omega, rfl, rfl⟩) | exact Or.inr (Or.inr ⟨by omega, by omega, rfl, rfl⟩)⟩ (by decide) (by decide) d_Md_rule_77
          · skip
            refine xr_iload_n C 3 d_Md_rule_55 rfl rfl ?_
            refine xr_bipush C d_Md_rule_56 (by decide) ?_
            refine xz_icmp_le (tgt := 65) C d_Md_rule_58 (by decide) (by omega) (by omega) (fun c58 => ?_) (fun c58 => ?_)
            · skip
              refine xr_iconst C d_Md_rule_65 ?_
              refine xr_put (k := 29) C xf_Md_86 hw29 (by decide) rfl rfl (Nat.le_of_ble_eq_true rfl) d_Md_rule_66 ?_
              refine xr_aload_n C 0 d_Md_rule_69 rfl rfl ?_
              refine xr_get (k := 29) C xg_Md_86 rfl (by decide) rfl d_Md_rule_70 ?_
              refine xz_if_eq (tgt := 78) C d_Md_rule_73 (by decide) (by omega) (fun c73 => ?_) (fun c73 => by exfalso; omega)
              refine xr_aload_n C 0 d_Md_rule_78 rfl rfl ?_
              refine xr_get (k := 29) C xg_Md_129 rfl (by decide) rfl d_Md_rule_79 ?_
              refine xr_bipush C d_Md_rule_82 (by decide) ?_
              refine xz_icmp_ne (tgt := 89) C d_Md_rule_84 (by decide) (by omega) (by omega) (fun c84 => ?_) (fun c84 => ?_)
              · skip
                refine xr_aload_n C 0 d_Md_rule_89 rfl rfl ?_
                refine xr_get (k := 29) C xg_Md_31 rfl (by decide) rfl d_Md_rule_90 ?_
                refine xr_aload_n C 0 d_Md_rule_93 rfl rfl ?_
                refine xr_get (k := 29) C xg_Md_129 rfl (by decide) rfl d_Md_rule_94 ?_
                refine xr_iload_n C 1 d_Md_rule_97 rfl rfl ?_
                refine xj_iast (k := 37) C (n) (by omega) hw37 (by decide) (by omega) (by decide) d_Md_rule_98 ?_
                refine xr_aload_n C 0 d_Md_rule_99 rfl rfl ?_
                refine xr_get (k := 29) C xg_Md_34 rfl (by decide) rfl d_Md_rule_100 ?_
                refine xr_aload_n C 0 d_Md_rule_103 rfl rfl ?_
                refine xr_get (k := 29) C xg_Md_129 rfl (by decide) rfl d_Md_rule_104 ?_
                refine xr_iload_n C 2 d_Md_rule_107 rfl rfl ?_
                refine xj_iast (k := 38) C (n) (by omega) hw38 (by decide) (by omega) (by decide) d_Md_rule_108 ?_
                refine xr_aload_n C 0 d_Md_rule_109 rfl rfl ?_
                refine xr_get (k := 29) C xg_Md_37 rfl (by decide) rfl d_Md_rule_110 ?_
                refine xr_aload_n C 0 d_Md_rule_113 rfl rfl ?_
                refine xr_get (k := 29) C xg_Md_129 rfl (by decide) rfl d_Md_rule_114 ?_
                refine xr_iload_n C 3 d_Md_rule_117 rfl rfl ?_
                refine xj_iast (k := 39) C (n) (by omega) hw39 (by decide) (by omega) (by decide) d_Md_rule_118 ?_
                refine xr_aload_n C 0 d_Md_rule_119 rfl rfl ?_
                refine xr_get (k := 29) C xg_Md_40 rfl (by decide) rfl d_Md_rule_120 ?_
                refine xr_aload_n C 0 d_Md_rule_123 rfl rfl ?_
                refine xr_get (k := 29) C xg_Md_129 rfl (by decide) rfl d_Md_rule_124 ?_
                refine xr_iconst C d_Md_rule_127 ?_
                refine xj_zast (k := 40) C (n) (by omega) hw40 (by decide) (by omega) (by decide) (by omega) d_Md_rule_128 ?_
                refine xr_aload_n C 0 d_Md_rule_129 rfl rfl ?_
                refine xr_dup C rfl d_Md_rule_130 ?_
                refine xr_get (k := 29) C xg_Md_129 rfl (by decide) rfl d_Md_rule_131 ?_
                refine xr_iconst C d_Md_rule_134 ?_
                refine xz_iadd C d_Md_rule_135 ?_
                refine xr_put (k := 29) C xf_Md_129 rfl (by decide) rfl rfl (Nat.le_of_ble_eq_true rfl) d_Md_rule_136 ?_
                refine xr_aload_n C 0 d_Md_rule_139 rfl rfl ?_
                refine xr_get (k := 29) C xg_Md_129 rfl (by decide) rfl d_Md_rule_140 ?_
                refine xr_iconst C d_Md_rule_143 ?_
                refine xz_isub C d_Md_rule_144 ?_
                refine xr_eqz (y := (n : Int)) (by omega) ?_
                exact xr_iret C E ⟨rfl, rfl, _, rfl, Or.inl ⟨by omega, by omega, Or.inl ⟨by omega, rfl, by rw [wswap5]; rfl⟩⟩⟩ (by decide) (by decide) d_Md_rule_145
              · skip
                refine xr_iconst C d_Md_rule_87 ?_
                exact xr_iret C E ⟨rfl, rfl, _, rfl, Or.inl ⟨by omega, by omega, Or.inr ⟨by omega, rfl, rfl⟩⟩⟩ (by decide) (by decide) d_Md_rule_88
            · skip
              refine xr_iconst C d_Md_rule_61 ?_
              refine xr_goto (tgt := 66) C d_Md_rule_62 (by decide) ?_
              refine xr_put (k := 29) C xf_Md_86 hw29 (by decide) rfl rfl (Nat.le_of_ble_eq_true rfl) d_Md_rule_66 ?_
              refine xr_aload_n C 0 d_Md_rule_69 rfl rfl ?_
              refine xr_get (k := 29) C xg_Md_86 rfl (by decide) rfl d_Md_rule_70 ?_
              refine xz_if_eq (tgt := 78) C d_Md_rule_73 (by decide) (by omega) (fun c73 => by exfalso; omega) (fun c73 => ?_)
              refine xr_iconst C d_Md_rule_76 ?_
              exact xr_iret C E ⟨rfl, rfl, _, rfl, by first | exact Or.inr (Or.inl ⟨by omega, rfl, rfl⟩) | exact Or.inr (Or.inr ⟨by omega, by omega, rfl, rfl⟩)⟩ (by decide) (by decide) d_Md_rule_77
    · skip
      have b14 : ¬ (0 ≤ y ∧ y < (sN S : Int)) := of_decide_eq_false c14
      refine xr_iconst C d_Md_rule_17 ?_
      refine xr_goto (tgt := 66) C d_Md_rule_18 (by decide) ?_
      refine xr_put (k := 29) C xf_Md_86 hw29 (by decide) rfl rfl (Nat.le_of_ble_eq_true rfl) d_Md_rule_66 ?_
      refine xr_aload_n C 0 d_Md_rule_69 rfl rfl ?_
      refine xr_get (k := 29) C xg_Md_86 rfl (by decide) rfl d_Md_rule_70 ?_
      refine xz_if_eq (tgt := 78) C d_Md_rule_73 (by decide) (by omega) (fun c73 => by exfalso; omega) (fun c73 => ?_)
      refine xr_iconst C d_Md_rule_76 ?_
      exact xr_iret C E ⟨rfl, rfl, _, rfl, by first | exact Or.inr (Or.inl ⟨by omega, rfl, rfl⟩) | exact Or.inr (Or.inr ⟨by omega, by omega, rfl, rfl⟩)⟩ (by decide) (by decide) d_Md_rule_77
