theorem xr_namew {G : xG} {n : Nat} {ad : Nat → Nat} {w : Nat → va_E} {a b pc : Nat} {lv : Nat → Option Value} {st : List Value} (K : ∀ w1, w1 = w → XW G n ad w1 a b pc lv st) : XW G n ad w a b pc lv st := K w rfl
theorem ent_wt {S : xS} {s a b : Int} {wt : Nat → Int} (hs : shp s a b (sN S)) (h : ∀ j, j < sN S → wt j = sWt S j) : (if 0 ≤ um s ∧ um s < 12 ∧ um s % 3 = 2 then 2 else 1) + (if a < 0 then 0 else wt a.toNat) + (if b < 0 then 0 else wt b.toNat) = nWt (sWt S) s a b := by
  unfold shp at hs
  rcases hs with q | q | q | q
  · rw [nWt_0 (by omega), if_pos (by omega : a < 0), if_pos (by omega : b < 0), if_neg]; · rfl
    unfold um
    rw [if_neg (by omega), if_pos (by omega)]
    omega
  · rw [nWt_0 (by omega), if_pos (by omega : a < 0), if_pos (by omega : b < 0), if_neg]; · rfl
    unfold um
    rw [if_pos (by omega)]
    omega
  · have e : um s = s := by unfold um; rw [if_neg (by omega), if_neg (by omega)]
    rw [nWt_1 (by omega), if_neg (by omega : ¬ a < 0), if_pos (by omega : b < 0), h _ (by omega), e]
    unfold c3
    by_cases h3 : s % 3 = 2
    · rw [if_pos (by omega : 0 ≤ s ∧ s < 12 ∧ s % 3 = 2), if_pos h3]; omega
    · rw [if_neg (by omega : ¬ (0 ≤ s ∧ s < 12 ∧ s % 3 = 2)), if_neg h3]; omega
  · have e : um s = s := by unfold um; rw [if_neg (by omega), if_neg (by omega)]
    rw [nWt_2 (by omega) (by omega), if_neg (by omega : ¬ a < 0), if_neg (by omega : ¬ b < 0), h _ (by omega), h _ (by omega), e]
    unfold c3
    by_cases h3 : s % 3 = 2
    · rw [if_pos (by omega : 0 ≤ s ∧ s < 12 ∧ s % 3 = 2), if_pos h3]; omega
    · rw [if_neg (by omega : ¬ (0 ≤ s ∧ s < 12 ∧ s % 3 = 2)), if_neg h3]; omega
theorem ent_dp {S : xS} {s a b : Int} {dp : Nat → Int} (hs : shp s a b (sN S)) (h : ∀ j, j < sN S → dp j = sDp S j) (h0 : ∀ j, 0 ≤ dp j) : 1 + max (if a < 0 then -1 else dp a.toNat) (if b < 0 then -1 else dp b.toNat) = nDp (sDp S) s a b := by
  unfold shp at hs
  rcases hs with q | q | q | q
  · rw [nDp_0 (by omega), if_pos (by omega : a < 0), if_pos (by omega : b < 0)]; rfl
  · rw [nDp_0 (by omega), if_pos (by omega : a < 0), if_pos (by omega : b < 0)]; rfl
  · have := h0 a.toNat
    rw [nDp_1 (by omega), if_neg (by omega : ¬ a < 0), if_pos (by omega : b < 0), ← h _ (by omega)]; omega
  · rw [nDp_2 (by omega) (by omega), if_neg (by omega : ¬ a < 0), if_neg (by omega : ¬ b < 0), h _ (by omega), h _ (by omega)]
theorem ent_pl {S : xS} {s a b : Int} {pl : Nat → Int} (hs : shp s a b (sN S)) (h : ∀ j, j < sN S → pl j = sPl S j) : 1 + (if a < 0 then 0 else pl a.toNat) + (if b < 0 then 0 else pl b.toNat) = nPl (sPl S) s a b := by
  unfold shp at hs
  rcases hs with q | q | q | q
  · rw [nPl_0 (by omega), if_pos (by omega : a < 0), if_pos (by omega : b < 0)]; rfl
  · rw [nPl_0 (by omega), if_pos (by omega : a < 0), if_pos (by omega : b < 0)]; rfl
  · rw [nPl_1 (by omega), if_neg (by omega : ¬ a < 0), if_pos (by omega : b < 0), h _ (by omega)]; omega
  · rw [nPl_2 (by omega) (by omega), if_neg (by omega : ¬ a < 0), if_neg (by omega : ¬ b < 0), h _ (by omega), h _ (by omega)]
theorem ent_hc {S : xS} {s a b : Int} {mk fs sn hc : Nat → Int} (hs : shp s a b (sN S)) (h : ∀ j i, j < sN S → i < 6 → hc (j * 6 + i) = cnt S j i) {i : Nat} (hi : i < 6) : tmH (va_up mk (sN S) (um s)) (va_up fs (sN S) a) (va_up sn (sN S) b) hc (sN S) i = cntN S s a b i := by
  have hab := shp_a hs
  unfold tmH cntN
  rw [va_eq, va_eq, va_eq]
  have e1 : (if um s = 100 + (i : Int) then (1 : Int) else 0) = (if s = 200 + (i : Int) then 1 else 0) := by
    have : um s = 100 + (i : Int) ↔ s = 200 + (i : Int) := by
      unfold shp at hs
      unfold um
      split
      · omega
      · split <;> omega
    by_cases q : s = 200 + (i : Int)
    · rw [if_pos q, if_pos (this.mpr q)]
    · rw [if_neg q, if_neg (fun z => q (this.mp z))]
  rw [e1]
  congr 1
  · congr 1
    split
    · rfl
    · exact h _ _ (by omega) hi
  · split
    · rfl
    · exact h _ _ (by omega) hi

theorem nWt_in {S : xS} {s a b : Int} (hT : Tb S) (hs : shp s a b (sN S)) : 0 ≤ nWt (sWt S) s a b ∧ nWt (sWt S) s a b ≤ 2002 := by
  have h3 := c3_in s
  unfold shp at hs
  rcases hs with q | q | q | q
  · rw [nWt_0 (by omega)]; omega
  · rw [nWt_0 (by omega)]; omega
  · obtain ⟨-, -, -, -, -, b1⟩ := hT.2.1 a.toNat (by omega)
    rw [nWt_1 (by omega)]; omega
  · obtain ⟨-, -, -, -, -, b1⟩ := hT.2.1 a.toNat (by omega)
    obtain ⟨-, -, -, -, -, b2⟩ := hT.2.1 b.toNat (by omega)
    rw [nWt_2 (by omega) (by omega)]; omega
theorem nDp_in {S : xS} {s a b : Int} (hT : Tb S) (hs : shp s a b (sN S)) : 0 ≤ nDp (sDp S) s a b ∧ nDp (sDp S) s a b ≤ 31 := by
  unfold shp at hs
  rcases hs with q | q | q | q
  · rw [nDp_0 (by omega)]; omega
  · rw [nDp_0 (by omega)]; omega
  · obtain ⟨-, -, -, -, -, b1⟩ := hT.2.1 a.toNat (by omega)
    rw [nDp_1 (by omega)]; omega
  · obtain ⟨-, -, -, -, -, b1⟩ := hT.2.1 a.toNat (by omega)
    obtain ⟨-, -, -, -, -, b2⟩ := hT.2.1 b.toNat (by omega)
    rw [nDp_2 (by omega) (by omega)]; omega
theorem hbS_eq' {f g : Nat → Bool} : ∀ k, (∀ i, i < k → f i = g i) → hbS f k = hbS g k := by
  intro k
  induction k with
  | zero => intro _; rfl
  | succ k ih => intro h; simp only [hbS]; rw [ih (fun i hi => h i (by omega)), h k (by omega)]
theorem hbS_eq {f g : Nat → Bool} (h : ∀ i, i < 6 → f i = g i) : hbS f 6 = hbS g 6 := hbS_eq' 6 h
set_option maxHeartbeats 4000000 in
set_option maxRecDepth 100000 in
theorem m_Tr_enter {L : Launch} {D : va_G} {cA : Nat → ClassId} {base : Nat} {ad : Nat → Nat} {w : Nat → va_E} {S : xS} {s a b : Int} {mk fs sn wt pl dp ho hc nw od : Nat → Int} (hw1 : w 1 = trO ad (sN S : Int)) (hw2 : w 2 = xIA (cA 0) 300 mk) (hw3 : w 3 = xIA (cA 0) 300 fs) (hw4 : w 4 = xIA (cA 0) 300 sn) (hw5 : w 5 = xIA (cA 0) 300 wt) (hw6 : w 6 = xIA (cA 0) 300 pl) (hw7 : w 7 = xIA (cA 0) 300 dp) (hw8 : w 8 = xIA (cA 0) 300 ho) (hw9 : w 9 = xIA (cA 0) 1800 hc) (hw10 : w 10 = xIA (cA 0) 512 nw) (hw11 : w 11 = xIA (cA 0) 300 od) (hC : TC S mk fs sn wt pl dp ho hc nw od) (hT : Tb S) (hs : shp s a b (sN S)) (hf : fnd S s a b = none) : XM L D cA base y_Tr_enter c_Tr_enter 8 (some .int) (xrm 2 0 0) [.ref (ad 1), .int (zI (um s)), .int (zI a), .int (zI b)] 56 ad w (xRet 56 ad (fun z w' => ∃ S' : xS, (z, S') = (if 300 ≤ sN S ∨ 1000 < nWt (sWt S) s a b ∨ 30 < nDp (sDp S) s a b then (-1, S) else ((sN S : Int), psh S s a b)) ∧ CT ad cA w' S' ∧ (∀ k, (k < 1 ∨ 11 < k) → w' k = w k))) xF := by
  refine xm_of (by decide +kernel) (by simp [Value.category]) (Nat.le_of_ble_eq_true rfl) (fun G C E _ => ?_)
  have hum := um_in hs
  have hab := shp_a hs
  have hN := hT.1
  refine xr_aload_n C 0 d_Tr_enter_0 rfl rfl ?_
  refine xr_iload_n C 1 d_Tr_enter_1 rfl rfl ?_
  refine xr_callV (k9 := 1) C (m_Tr_ownWeight (x := um s) (by omega)) xm_Tr_59 x2_Tr_ownWeight hw1 (by decide) rfl (by decide) (by decide) (Nat.le_of_ble_eq_true rfl) rfl d_Tr_enter_2 (fun En n9 ad9 w9 hx9 => hx9.elim) (fun v n9 ad9 w9 hp => ?_)
  obtain ⟨rfl, rfl, rfl, rfl⟩ := hp
  show XW _ _ _ _ _ _ 5 _ (_ :: _)
  refine xr_aload_n C 0 d_Tr_enter_5 rfl rfl ?_
  refine xr_aload_n C 0 d_Tr_enter_6 rfl rfl ?_
  refine xr_get (k := 1) C xg_Tr_21 hw1 (by decide) rfl d_Tr_enter_7 ?_
  refine xr_iload_n C 2 d_Tr_enter_10 rfl rfl ?_
  refine xr_iconst C d_Tr_enter_11 ?_
  refine xr_callV (k9 := 1) C (m_Tr_valueOf (k := 5) (by decide) (by decide) hw5 (x := a) (y := 0) (by omega)) xm_Tr_63 x2_Tr_valueOf hw1 (by decide) rfl (by decide) (by decide) (Nat.le_of_ble_eq_true rfl) rfl d_Tr_enter_12 (fun En n9 ad9 w9 hx9 => hx9.elim) (fun v n9 ad9 w9 hp => ?_)
  obtain ⟨rfl, rfl, rfl, rfl⟩ := hp
  show XW _ _ _ _ _ _ 15 _ (_ :: _)
  refine xz_iadd C d_Tr_enter_15 ?_
  refine xr_aload_n C 0 d_Tr_enter_16 rfl rfl ?_
  refine xr_aload_n C 0 d_Tr_enter_17 rfl rfl ?_
  refine xr_get (k := 1) C xg_Tr_21 hw1 (by decide) rfl d_Tr_enter_18 ?_
  refine xr_iload_n C 3 d_Tr_enter_21 rfl rfl ?_
  refine xr_iconst C d_Tr_enter_22 ?_
  refine xr_callV (k9 := 1) C (m_Tr_valueOf (k := 5) (by decide) (by decide) hw5 (x := b) (y := 0) (by omega)) xm_Tr_63 x2_Tr_valueOf hw1 (by decide) rfl (by decide) (by decide) (Nat.le_of_ble_eq_true rfl) rfl d_Tr_enter_23 (fun En n9 ad9 w9 hx9 => hx9.elim) (fun v n9 ad9 w9 hp => ?_)
  obtain ⟨rfl, rfl, rfl, rfl⟩ := hp
  show XW _ _ _ _ _ _ 26 _ (_ :: _)
  refine xz_iadd C d_Tr_enter_26 ?_
  refine xr_eqz (ent_wt hs (fun j hj => (hC.1 j hj).2.2.2.1)) ?_
  refine xr_istore C d_Tr_enter_27 (by decide) ?_
  refine xr_iconst C d_Tr_enter_29 ?_
  refine xr_aload_n C 0 d_Tr_enter_30 rfl rfl ?_
  refine xr_aload_n C 0 d_Tr_enter_31 rfl rfl ?_
  refine xr_get (k := 1) C xg_Tr_27 hw1 (by decide) rfl d_Tr_enter_32 ?_
  refine xr_iload_n C 2 d_Tr_enter_35 rfl rfl ?_
  refine xr_iconst C d_Tr_enter_36 ?_
  refine xr_callV (k9 := 1) C (m_Tr_valueOf (k := 7) (by decide) (by decide) hw7 (x := a) (y := (-1)) (by omega)) xm_Tr_63 x2_Tr_valueOf hw1 (by decide) rfl (by decide) (by decide) (Nat.le_of_ble_eq_true rfl) rfl d_Tr_enter_37 (fun En n9 ad9 w9 hx9 => hx9.elim) (fun v n9 ad9 w9 hp => ?_)
  obtain ⟨rfl, rfl, rfl, rfl⟩ := hp
  show XW _ _ _ _ _ _ 40 _ (_ :: _)
  refine xr_aload_n C 0 d_Tr_enter_40 rfl rfl ?_
  refine xr_aload_n C 0 d_Tr_enter_41 rfl rfl ?_
  refine xr_get (k := 1) C xg_Tr_27 hw1 (by decide) rfl d_Tr_enter_42 ?_
  refine xr_iload_n C 3 d_Tr_enter_45 rfl rfl ?_
  refine xr_iconst C d_Tr_enter_46 ?_
  refine xr_callV (k9 := 1) C (m_Tr_valueOf (k := 7) (by decide) (by decide) hw7 (x := b) (y := (-1)) (by omega)) xm_Tr_63 x2_Tr_valueOf hw1 (by decide) rfl (by decide) (by decide) (Nat.le_of_ble_eq_true rfl) rfl d_Tr_enter_47 (fun En n9 ad9 w9 hx9 => hx9.elim) (fun v n9 ad9 w9 hp => ?_)
  obtain ⟨rfl, rfl, rfl, rfl⟩ := hp
  show XW _ _ _ _ _ _ 50 _ (_ :: _)
  have hda := (hC.2.2.1 a.toNat).2.2.2.2.2.1
  have hdb := (hC.2.2.1 b.toNat).2.2.2.2.2.1
  refine xz_mmax C (by split <;> omega) (by split <;> omega) xmax_Tr_67 (by decide) (by decide) (by decide) d_Tr_enter_50 ?_
  refine xz_iadd C d_Tr_enter_53 ?_
  refine xr_eqz (ent_dp hs (fun j hj => (hC.1 j hj).2.2.2.2.2.1) (fun j => (hC.2.2.1 j).2.2.2.2.2.1.1)) ?_
  refine xr_istore C d_Tr_enter_54 (by decide) ?_
  refine xr_aload_n C 0 d_Tr_enter_56 rfl rfl ?_
  refine xr_get (k := 1) C xg_Tr_42 hw1 (by decide) rfl d_Tr_enter_57 ?_
  refine xr_sipush C d_Tr_enter_60 (by decide) ?_
  refine xz_icmp_ge (tgt := 81) C d_Tr_enter_63 (by decide) (by omega) (by omega) (fun c63 => ?_) (fun c63 => ?_)
  · skip
    refine xr_iconst C d_Tr_enter_81 ?_
    exact xr_iret C E ⟨rfl, rfl, -1, rfl, S, by rw [if_pos (by omega)], ⟨mk, fs, sn, wt, pl, dp, ho, hc, nw, od, hw1, hw2, hw3, hw4, hw5, hw6, hw7, hw8, hw9, hw10, hw11, hC⟩, fun k _ => rfl⟩ (by decide) (by decide) d_Tr_enter_82
  · skip
    refine xr_iload C d_Tr_enter_66 rfl ?_
    refine xr_sipush C d_Tr_enter_68 (by decide) ?_
    have hwn : 0 ≤ nWt (sWt S) s a b ∧ nWt (sWt S) s a b ≤ 2002 := nWt_in hT hs
    refine xz_icmp_gt (tgt := 81) C d_Tr_enter_71 (by decide) (by omega) (by omega) (fun c71 => ?_) (fun c71 => ?_)
    · skip
      refine xr_iconst C d_Tr_enter_81 ?_
      exact xr_iret C E ⟨rfl, rfl, -1, rfl, S, by rw [if_pos (by omega)], ⟨mk, fs, sn, wt, pl, dp, ho, hc, nw, od, hw1, hw2, hw3, hw4, hw5, hw6, hw7, hw8, hw9, hw10, hw11, hC⟩, fun k _ => rfl⟩ (by decide) (by decide) d_Tr_enter_82
    · skip
      refine xr_iload C d_Tr_enter_74 rfl ?_
      refine xr_bipush C d_Tr_enter_76 (by decide) ?_
      have hdn : 0 ≤ nDp (sDp S) s a b ∧ nDp (sDp S) s a b ≤ 31 := nDp_in hT hs
      refine xz_icmp_le (tgt := 83) C d_Tr_enter_78 (by decide) (by omega) (by omega) (fun c78 => ?_) (fun c78 => ?_)
      · skip
        refine xr_aload_n C 0 d_Tr_enter_83 rfl rfl ?_
        refine xr_get (k := 1) C xg_Tr_42 hw1 (by decide) rfl d_Tr_enter_84 ?_
        refine xr_istore C d_Tr_enter_87 (by decide) ?_
        refine xr_aload_n C 0 d_Tr_enter_89 rfl rfl ?_
        refine xr_dup C rfl d_Tr_enter_90 ?_
        refine xr_get (k := 1) C xg_Tr_42 hw1 (by decide) rfl d_Tr_enter_91 ?_
        refine xr_iconst C d_Tr_enter_94 ?_
        refine xz_iadd C d_Tr_enter_95 ?_
        refine xr_put (k := 1) C xf_Tr_42 hw1 (by decide) rfl rfl (Nat.le_of_ble_eq_true rfl) d_Tr_enter_96 ?_
        refine xr_aload_n C 0 d_Tr_enter_99 rfl rfl ?_
        refine xr_get (k := 1) C xg_Tr_9 rfl (by decide) rfl d_Tr_enter_100 ?_
        refine xr_iload C d_Tr_enter_103 rfl ?_
        refine xr_iload_n C 1 d_Tr_enter_105 rfl rfl ?_
        refine xj_iast (k := 2) C (sN S) (by omega) hw2 (by decide) (by omega) (by decide) d_Tr_enter_106 ?_
        refine xr_aload_n C 0 d_Tr_enter_107 rfl rfl ?_
        refine xr_get (k := 1) C xg_Tr_15 rfl (by decide) rfl d_Tr_enter_108 ?_
        refine xr_iload C d_Tr_enter_111 rfl ?_
        refine xr_iload_n C 2 d_Tr_enter_113 rfl rfl ?_
        refine xj_iast (k := 3) C (sN S) (by omega) hw3 (by decide) (by omega) (by decide) d_Tr_enter_114 ?_
        refine xr_aload_n C 0 d_Tr_enter_115 rfl rfl ?_
        refine xr_get (k := 1) C xg_Tr_18 rfl (by decide) rfl d_Tr_enter_116 ?_
        refine xr_iload C d_Tr_enter_119 rfl ?_
        refine xr_iload_n C 3 d_Tr_enter_121 rfl rfl ?_
        refine xj_iast (k := 4) C (sN S) (by omega) hw4 (by decide) (by omega) (by decide) d_Tr_enter_122 ?_
        refine xr_aload_n C 0 d_Tr_enter_123 rfl rfl ?_
        refine xr_get (k := 1) C xg_Tr_21 rfl (by decide) rfl d_Tr_enter_124 ?_
        refine xr_iload C d_Tr_enter_127 rfl ?_
        refine xr_iload C d_Tr_enter_129 rfl ?_
        refine xj_iast (k := 5) C (sN S) (by omega) hw5 (by decide) (by omega) (by decide) d_Tr_enter_131 ?_
        refine xr_aload_n C 0 d_Tr_enter_132 rfl rfl ?_
        refine xr_get (k := 1) C xg_Tr_27 rfl (by decide) rfl d_Tr_enter_133 ?_
        refine xr_iload C d_Tr_enter_136 rfl ?_
        refine xr_iload C d_Tr_enter_138 rfl ?_
        refine xj_iast (k := 7) C (sN S) (by omega) hw7 (by decide) (by omega) (by decide) d_Tr_enter_140 ?_
        refine xr_namew (fun w1 ew1 => ?_)
        have hw6 := (congrFun ew1 6).trans hw6
        have hw8 := (congrFun ew1 8).trans hw8
        have hw9 := (congrFun ew1 9).trans hw9
        have hw10 := (congrFun ew1 10).trans hw10
        have hw11 := (congrFun ew1 11).trans hw11
        have hw1 : w1 1 = trO ad ((sN S : Int) + 1) := (congrFun ew1 1).trans rfl
        have hw2 : w1 2 = xIA (cA 0) 300 (va_up mk (sN S) (um s)) := (congrFun ew1 2).trans rfl
        have hw3 : w1 3 = xIA (cA 0) 300 (va_up fs (sN S) a) := (congrFun ew1 3).trans rfl
        have hw4 : w1 4 = xIA (cA 0) 300 (va_up sn (sN S) b) := (congrFun ew1 4).trans rfl
        have hw5 : w1 5 = xIA (cA 0) 300 (va_up wt (sN S) (nWt (sWt S) s a b)) := (congrFun ew1 5).trans rfl
        have hw7 : w1 7 = xIA (cA 0) 300 (va_up dp (sN S) (nDp (sDp S) s a b)) := (congrFun ew1 7).trans rfl
        refine xr_aload_n C 0 d_Tr_enter_141 rfl rfl ?_
        refine xr_get (k := 1) C xg_Tr_24 hw1 (by decide) rfl d_Tr_enter_142 ?_
        refine xr_iload C d_Tr_enter_145 rfl ?_
        refine xr_iconst C d_Tr_enter_147 ?_
        refine xr_aload_n C 0 d_Tr_enter_148 rfl rfl ?_
        refine xr_aload_n C 0 d_Tr_enter_149 rfl rfl ?_
        refine xr_get (k := 1) C xg_Tr_24 hw1 (by decide) rfl d_Tr_enter_150 ?_
        refine xr_iload_n C 2 d_Tr_enter_153 rfl rfl ?_
        refine xr_iconst C d_Tr_enter_154 ?_
        refine xr_callV (k9 := 1) C (m_Tr_valueOf (k := 6) (by decide) (by decide) hw6 (x := a) (y := 0) (by omega)) xm_Tr_63 x2_Tr_valueOf hw1 (by decide) rfl (by decide) (by decide) (Nat.le_of_ble_eq_true rfl) rfl d_Tr_enter_155 (fun En n9 ad9 w9 hx9 => hx9.elim) (fun v n9 ad9 w9 hp => ?_)
        obtain ⟨rfl, rfl, rfl, rfl⟩ := hp
        show XW _ _ _ _ _ _ 158 _ (_ :: _)
        refine xz_iadd C d_Tr_enter_158 ?_
        refine xr_aload_n C 0 d_Tr_enter_159 rfl rfl ?_
        refine xr_aload_n C 0 d_Tr_enter_160 rfl rfl ?_
        refine xr_get (k := 1) C xg_Tr_24 hw1 (by decide) rfl d_Tr_enter_161 ?_
        refine xr_iload_n C 3 d_Tr_enter_164 rfl rfl ?_
        refine xr_iconst C d_Tr_enter_165 ?_
        refine xr_callV (k9 := 1) C (m_Tr_valueOf (k := 6) (by decide) (by decide) hw6 (x := b) (y := 0) (by omega)) xm_Tr_63 x2_Tr_valueOf hw1 (by decide) rfl (by decide) (by decide) (Nat.le_of_ble_eq_true rfl) rfl d_Tr_enter_166 (fun En n9 ad9 w9 hx9 => hx9.elim) (fun v n9 ad9 w9 hp => ?_)
        obtain ⟨rfl, rfl, rfl, rfl⟩ := hp
        show XW _ _ _ _ _ _ 169 _ (_ :: _)
        refine xz_iadd C d_Tr_enter_169 ?_
        refine xr_eqz (ent_pl hs (fun j hj => (hC.1 j hj).2.2.2.2.1)) ?_
        refine xj_iast (k := 6) C (sN S) (by omega) hw6 (by decide) (by omega) (by decide) d_Tr_enter_170 ?_
        refine xr_namew (fun w2 ew2 => ?_)
        have hw1 := (congrFun ew2 1).trans hw1
        have hw2 := (congrFun ew2 2).trans hw2
        have hw3 := (congrFun ew2 3).trans hw3
        have hw4 := (congrFun ew2 4).trans hw4
        have hw5 := (congrFun ew2 5).trans hw5
        have hw7 := (congrFun ew2 7).trans hw7
        have hw8 := (congrFun ew2 8).trans hw8
        have hw9 := (congrFun ew2 9).trans hw9
        have hw10 := (congrFun ew2 10).trans hw10
        have hw11 := (congrFun ew2 11).trans hw11
        have hw6 : w2 6 = xIA (cA 0) 300 (va_up pl (sN S) (nPl (sPl S) s a b)) := (congrFun ew2 6).trans rfl
        refine xr_aload_n C 0 d_Tr_enter_171 rfl rfl ?_
        refine xr_iload C d_Tr_enter_172 rfl ?_
        refine xr_callV (k9 := 1) C (m_Tr_noteHoles (x := sN S) hw1 hw2 hw3 hw4 hw8 hw9 (by omega) (by rw [va_eq]; omega) (by rw [va_eq]; omega) (by rw [va_eq]; omega) (fun j => (hC.2.2.1 j).2.2.2.2.2.2.2.1)) xm_Tr_73 x2_Tr_noteHoles hw1 (by decide) rfl (by decide) (by decide) (Nat.le_of_ble_eq_true rfl) rfl d_Tr_enter_174 (fun En n9 ad9 w9 hx9 => hx9.elim) (fun v n9 ad9 w9 hp => ?_)
        obtain ⟨rfl, rfl, rfl, hc', ew3, hn, hot⟩ := hp
        have hw1 := (congrFun ew3 1).trans hw1
        have hw2 := (congrFun ew3 2).trans hw2
        have hw3 := (congrFun ew3 3).trans hw3
        have hw4 := (congrFun ew3 4).trans hw4
        have hw5 := (congrFun ew3 5).trans hw5
        have hw6 := (congrFun ew3 6).trans hw6
        have hw7 := (congrFun ew3 7).trans hw7
        have hw8 := (congrFun ew3 8)
        have hw9 := (congrFun ew3 9)
        have hw10 := (congrFun ew3 10).trans hw10
        have hw11 := (congrFun ew3 11).trans hw11
        refine xr_aload_n C 0 d_Tr_enter_177 rfl rfl ?_
        refine xr_iload_n C 1 d_Tr_enter_178 rfl rfl ?_
        refine xr_iload_n C 2 d_Tr_enter_179 rfl rfl ?_
        refine xr_iload_n C 3 d_Tr_enter_180 rfl rfl ?_
        refine xr_callV (k9 := 1) C (m_Tr_slotOf (x := um s) (y := a) (z := b)) xm_Tr_52 x2_Tr_slotOf hw1 (by decide) rfl (by decide) (by decide) (Nat.le_of_ble_eq_true rfl) rfl d_Tr_enter_181 (fun En n9 ad9 w9 hx9 => hx9.elim) (fun v n9 ad9 w9 hp => ?_)
        obtain ⟨rfl, rfl, rfl, rfl⟩ := hp
        show XW _ _ _ _ _ _ 184 _ (_ :: _)
        refine xr_eqz (y := slot s a b) rfl ?_
        have hsl := slot_in s a b
        refine xr_istore C d_Tr_enter_184 (by decide) ?_
        refine xr_aload_n C 0 d_Tr_enter_186 rfl rfl ?_
        refine xr_get (k := 1) C xg_Tr_39 hw1 (by decide) rfl d_Tr_enter_187 ?_
        refine xr_iload C d_Tr_enter_190 rfl ?_
        refine xr_aload_n C 0 d_Tr_enter_192 rfl rfl ?_
        refine xr_get (k := 1) C xg_Tr_36 hw1 (by decide) rfl d_Tr_enter_193 ?_
        refine xr_iload C d_Tr_enter_196 rfl ?_
        refine xj_iald (k := 10) C ((slot s a b).toNat) (by omega) hw10 (by decide) (by omega) (by decide) d_Tr_enter_198 ?_
        refine xj_iast (k := 11) C (sN S) (by omega) hw11 (by decide) (by omega) (by decide) d_Tr_enter_199 ?_
        refine xr_aload_n C 0 d_Tr_enter_200 rfl rfl ?_
        refine xr_get (k := 1) C xg_Tr_36 hw1 (by decide) rfl d_Tr_enter_201 ?_
        refine xr_iload C d_Tr_enter_204 rfl ?_
        refine xr_iload C d_Tr_enter_206 rfl ?_
        refine xj_iast (k := 10) C ((slot s a b).toNat) (by omega) hw10 (by decide) (by omega) (by decide) d_Tr_enter_208 ?_
        refine xr_iload C d_Tr_enter_209 rfl ?_
        have hnl : ¬ (300 ≤ sN S ∨ 1000 < nWt (sWt S) s a b ∨ 30 < nDp (sDp S) s a b) := by omega
        exact xr_iret C E ⟨rfl, rfl, (sN S : Int), rfl, psh S s a b, by rw [if_neg hnl], ⟨va_up mk (sN S) (um s), va_up fs (sN S) a, va_up sn (sN S) b, va_up wt (sN S) (nWt (sWt S) s a b), va_up pl (sN S) (nPl (sPl S) s a b), va_up dp (sN S) (nDp (sDp S) s a b), va_up ho (sN S) (nHo S s a b), hc', va_up nw (slot s a b).toNat (sN S : Int), va_up od (sN S) (nw (slot s a b).toNat), hw1, hw2, hw3, hw4, hw5, hw6, hw7, by show w9 8 = _; rw [hw8]; show xIA _ _ _ = _; unfold nHo; rw [show (fun h => decide (0 < tmH (va_up mk (sN S) (um s)) (va_up fs (sN S) a) (va_up sn (sN S) b) hc (sN S) h)) = _ from rfl, hbS_eq (fun i hi => by rw [ent_hc hs (fun j i hj hi => hC.2.1 j i hj hi) hi])], by show w9 9 = _; rw [hw9]; rfl, rfl, rfl, tc_push hC hT hs hf hnl (fun i hi => by rw [hn i hi, ent_hc hs (fun j i hj hi => hC.2.1 j i hj hi) hi]) hot⟩, fun k hk => by
          show va_up (va_up w9 11 _) 10 _ k = w k
          rw [va_ne (by omega), va_ne (by omega), ew3, va_ne (by omega), va_ne (by omega), ew2, va_ne (by omega), ew1, va_ne (by omega), va_ne (by omega), va_ne (by omega), va_ne (by omega), va_ne (by omega), va_ne (by omega)]⟩ (by decide) (by decide) d_Tr_enter_211
      · skip
        refine xr_iconst C d_Tr_enter_81 ?_
        exact xr_iret C E ⟨rfl, rfl, -1, rfl, S, by rw [if_pos (by omega)], ⟨mk, fs, sn, wt, pl, dp, ho, hc, nw, od, hw1, hw2, hw3, hw4, hw5, hw6, hw7, hw8, hw9, hw10, hw11, hC⟩, fun k _ => rfl⟩ (by decide) (by decide) d_Tr_enter_82
