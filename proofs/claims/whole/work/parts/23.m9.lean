/-- each hole stands in x at least as often as in y -/
def hoS (S : xS) (x y : Nat) : Bool := (List.range 6).all (fun h => decide (cnt S y h ≤ cnt S x h))
/-- THE ORDER -/
def abv (S : xS) (x y : Nat) : Bool :=
  if x = y then false
  else if hoS S x y = false then false
  else if sWt S x ≠ sWt S y then decide (sWt S y < sWt S x)
  else if 200 ≤ sSg S x ∨ 200 ≤ sSg S y then false
  else if 100 ≤ sSg S x ∨ 100 ≤ sSg S y then decide (sSg S x < 100 ∨ (100 ≤ sSg S y ∧ sSg S y < sSg S x))
  else if sSg S x ≠ sSg S y then decide (sSg S y < sSg S x)
  else if h : (if sFs S x = sFs S y then sSn S x else sFs S x).toNat < x then abv S (if sFs S x = sFs S y then sSn S x else sFs S x).toNat (if sFs S x = sFs S y then sSn S y else sFs S y).toNat else false
termination_by x
decreasing_by exact h
theorem hoS_hc {S : xS} {hc : Nat → Int} {x y : Nat} (h : ∀ j i, j < sN S → i < 6 → hc (j * 6 + i) = cnt S j i) (hx : x < sN S) (hy : y < sN S) : hOK hc x y = hoS S x y := by
  unfold hOK hoS
  rw [Bool.eq_iff_iff, List.all_eq_true, List.all_eq_true]
  constructor
  · intro q i hi
    have := q i hi
    rw [h x i hx (List.mem_range.mp hi), h y i hy (List.mem_range.mp hi)] at this
    exact this
  · intro q i hi
    have := q i hi
    rw [h x i hx (List.mem_range.mp hi), h y i hy (List.mem_range.mp hi)]
    exact this
theorem um_eq {s a b : Int} {j : Nat} (h : shp s a b j) : (s < 100 → um s = s) ∧ (100 ≤ s → s < 200 → um s = 99 - s) ∧ (200 ≤ s → um s = s - 100) := by
  unfold shp at h
  unfold um
  split
  · omega
  · split <;> omega
theorem abv_same {S : xS} {x y : Nat} (h : x = y) : abv S x y = false := by rw [abv, if_pos h]
theorem abv_ho {S : xS} {x y : Nat} (h : ¬ x = y) (h1 : hoS S x y = false) : abv S x y = false := by rw [abv, if_neg h, if_pos h1]
theorem abv_wt {S : xS} {x y : Nat} (h : ¬ x = y) (h1 : hoS S x y = true) (h2 : sWt S x ≠ sWt S y) : abv S x y = decide (sWt S y < sWt S x) := by rw [abv, if_neg h, if_neg (by rw [h1]; decide), if_pos h2]
theorem abv_hole {S : xS} {x y : Nat} (h : ¬ x = y) (h1 : hoS S x y = true) (h2 : sWt S x = sWt S y) (h3 : 200 ≤ sSg S x ∨ 200 ≤ sSg S y) : abv S x y = false := by rw [abv, if_neg h, if_neg (by rw [h1]; decide), if_neg (by simp [h2]), if_pos h3]
theorem abv_leaf {S : xS} {x y : Nat} (h : ¬ x = y) (h1 : hoS S x y = true) (h2 : sWt S x = sWt S y) (h3 : ¬ (200 ≤ sSg S x ∨ 200 ≤ sSg S y)) (h4 : 100 ≤ sSg S x ∨ 100 ≤ sSg S y) : abv S x y = decide (sSg S x < 100 ∨ (100 ≤ sSg S y ∧ sSg S y < sSg S x)) := by rw [abv, if_neg h, if_neg (by rw [h1]; decide), if_neg (by simp [h2]), if_neg h3, if_pos h4]
theorem abv_head {S : xS} {x y : Nat} (h : ¬ x = y) (h1 : hoS S x y = true) (h2 : sWt S x = sWt S y) (h3 : sSg S x < 100) (h4 : sSg S y < 100) (h5 : sSg S x ≠ sSg S y) : abv S x y = decide (sSg S y < sSg S x) := by rw [abv, if_neg h, if_neg (by rw [h1]; decide), if_neg (by simp [h2]), if_neg (by omega), if_neg (by omega), if_pos h5]
theorem abv_fst {S : xS} {x y : Nat} (h : ¬ x = y) (h1 : hoS S x y = true) (h2 : sWt S x = sWt S y) (h3 : sSg S x < 100) (h4 : sSg S y < 100) (h5 : sSg S x = sSg S y) (h6 : ¬ sFs S x = sFs S y) (h7 : (sFs S x).toNat < x) : abv S x y = abv S (sFs S x).toNat (sFs S y).toNat := by
  rw [abv, if_neg h, if_neg (by rw [h1]; decide), if_neg (by simp [h2]), if_neg (by omega), if_neg (by omega), if_neg (by simp [h5]), dif_pos (by rw [if_neg h6]; exact h7), if_neg h6, if_neg h6]
theorem abv_snd {S : xS} {x y : Nat} (h : ¬ x = y) (h1 : hoS S x y = true) (h2 : sWt S x = sWt S y) (h3 : sSg S x < 100) (h4 : sSg S y < 100) (h5 : sSg S x = sSg S y) (h6 : sFs S x = sFs S y) (h7 : (sSn S x).toNat < x) : abv S x y = abv S (sSn S x).toNat (sSn S y).toNat := by
  rw [abv, if_neg h, if_neg (by rw [h1]; decide), if_neg (by simp [h2]), if_neg (by omega), if_neg (by omega), if_neg (by simp [h5]), dif_pos (by rw [if_pos h6]; exact h7), if_pos h6, if_pos h6]
theorem dp_child {S : xS} (hT : Tb S) {x : Nat} (hx : x < sN S) : (sSg S x < 100 → sDp S (sFs S x).toNat < sDp S x) ∧ (6 ≤ sSg S x → sSg S x < 100 → sDp S (sSn S x).toNat < sDp S x) := by
  obtain ⟨s1, -, -, d1, -⟩ := hT.2.1 x hx
  unfold shp at s1
  rcases s1 with q | q | q | q
  · omega
  · omega
  · rw [nDp_1 (by omega)] at d1
    omega
  · rw [nDp_2 (by omega) (by omega)] at d1
    omega
set_option maxHeartbeats 4000000 in
set_option maxRecDepth 100000 in
theorem m_Tr_isAbove {L : Launch} {D : va_G} {cA : Nat → ClassId} {base : Nat} {ad : Nat → Nat} {w : Nat → va_E} {S : xS} {x0 y0 : Nat} (hCT : CT ad cA w S) (hT : Tb S) (hx : x0 < sN S) (hy : y0 < sN S) : XM L D cA base y_Tr_isAbove c_Tr_isAbove 7 (some .boolean) (xrm 2 0 0) [.ref (ad 1), .int (zI (x0 : Int)), .int (zI (y0 : Int))] 56 ad w (xPure 56 ad w (.int (zI (xb (abv S x0 y0))))) xF := by
  refine xm_of (by decide +kernel) (by simp [Value.category]) (Nat.le_of_ble_eq_true rfl) (fun G C E _ => ?_)
  obtain ⟨mk, fs, sn, wt, pl, dp, ho, hc, nw, od, hw1, hw2, hw3, hw4, hw5, hw6, hw7, hw8, hw9, hw10, hw11, hC⟩ := hCT
  have hN := hT.1
  have lp : ∀ (k x y l : Nat) (lv : Nat → Option Value), x < k → x < sN S → y < sN S → sDp S x + l ≤ 30 → abv S x y = abv S x0 y0 → lv 0 = some (.ref (ad 1)) → lv 3 = some (.int (zI (x : Int))) → lv 4 = some (.int (zI (y : Int))) → lv 5 = some (.int (zI (l : Int))) → XW G 56 ad w 0 0 8 lv [] := by
    intro k
    induction k with
    | zero => intro x y l lv h1; exact absurd h1 (by omega)
    | succ k ih =>
      intro x y l lv h1 h2 h2y h3 hEq hl0 hl3 hl4 hl5
      obtain ⟨mx1, mx2, mx3, mx4, mx5, mx6, mx7⟩ := hC.1 x (by omega)
      obtain ⟨my1, my2, my3, my4, my5, my6, my7⟩ := hC.1 y (by omega)
      have rx := hC.2.2.1 x
      have ry := hC.2.2.1 y
      obtain ⟨sx, -, -, dx, -, bx⟩ := hT.2.1 x (by omega)
      obtain ⟨sy, -, -, dy, -, by9⟩ := hT.2.1 y (by omega)
      refine xr_iload C d_Tr_isAbove_8 hl5 ?_
      refine xr_bipush C d_Tr_isAbove_10 (by decide) ?_
      refine xz_icmp_gt (tgt := 247) C d_Tr_isAbove_12 (by decide) (by omega) (by omega) (fun c12 => ?_) (fun c12 => ?_)
      · skip
        refine xr_iconst C d_Tr_isAbove_247 ?_
        exact xr_zret C E (by omega) ⟨rfl, rfl, rfl, by rw [← hEq, abv_same (by omega)]; rfl⟩ (by decide) (by decide) d_Tr_isAbove_248
      · skip
        refine xr_iload_n C 3 d_Tr_isAbove_15 rfl hl3 ?_
        refine xr_iload C d_Tr_isAbove_16 hl4 ?_
        refine xz_icmp_eq (tgt := 247) C d_Tr_isAbove_18 (by decide) (by omega) (by omega) (fun c18 => ?_) (fun c18 => ?_)
        · skip
          refine xr_iconst C d_Tr_isAbove_247 ?_
          exact xr_zret C E (by omega) ⟨rfl, rfl, rfl, by rw [← hEq, abv_same (by omega)]; rfl⟩ (by decide) (by decide) d_Tr_isAbove_248
        · skip
          refine xr_aload_n C 0 d_Tr_isAbove_21 rfl hl0 ?_
          refine xr_iload_n C 3 d_Tr_isAbove_22 rfl hl3 ?_
          refine xr_iload C d_Tr_isAbove_23 hl4 ?_
          refine xr_callV (k9 := 1) C (m_Tr_hasHolesOf hw1 hw9 (fun j => (hC.2.2.1 j).2.2.2.2.2.2.2.1) (x := x) (y := y) (by omega) (by omega)) xm_Tr_84 x2_Tr_hasHolesOf hw1 (by decide) rfl (by decide) (by decide) (Nat.le_of_ble_eq_true rfl) rfl d_Tr_isAbove_25 (fun En n9 ad9 w9 hx9 => hx9.elim) (fun v n9 ad9 w9 hp => ?_)
          obtain ⟨rfl, rfl, rfl, rfl⟩ := hp
          show XW _ _ _ _ _ _ 28 _ (_ :: _)
          refine xb_if_ne (tgt := 33) C d_Tr_isAbove_28 (by decide)  (fun c28 => ?_) (fun c28 => ?_)
          · skip
            have ho9 : hoS S x y = true := by rw [← hoS_hc hC.2.1 (by omega) (by omega)]; exact c28
            refine xr_aload_n C 0 d_Tr_isAbove_33 rfl hl0 ?_
            refine xr_get (k := 1) C xg_Tr_21 hw1 (by decide) rfl d_Tr_isAbove_34 ?_
            refine xr_iload_n C 3 d_Tr_isAbove_37 rfl hl3 ?_
            refine xj_iald (k := 5) C (x) (by omega) hw5 (by decide) (by omega) (by decide) d_Tr_isAbove_38 ?_
            refine xr_aload_n C 0 d_Tr_isAbove_39 rfl hl0 ?_
            refine xr_get (k := 1) C xg_Tr_21 hw1 (by decide) rfl d_Tr_isAbove_40 ?_
            refine xr_iload C d_Tr_isAbove_43 hl4 ?_
            refine xj_iald (k := 5) C (y) (by omega) hw5 (by decide) (by omega) (by decide) d_Tr_isAbove_45 ?_
            refine xz_icmp_eq (tgt := 71) C d_Tr_isAbove_46 (by decide) (by omega) (by omega) (fun c46 => ?_) (fun c46 => ?_)
            · skip
              refine xr_aload_n C 0 d_Tr_isAbove_71 rfl hl0 ?_
              refine xr_iload_n C 3 d_Tr_isAbove_72 rfl hl3 ?_
              refine xr_callV (k9 := 1) C (m_Tr_isNode hw1 hw2 (fun j => (hC.2.2.1 j).1) (x := (x : Int)) (by omega)) xm_Tr_80 x2_Tr_isNode hw1 (by decide) rfl (by decide) (by decide) (Nat.le_of_ble_eq_true rfl) rfl d_Tr_isAbove_73 (fun En n9 ad9 w9 hx9 => hx9.elim) (fun v n9 ad9 w9 hp => ?_)
              obtain ⟨rfl, rfl, rfl, rfl⟩ := hp
              show XW _ _ _ _ _ _ 76 _ (_ :: _)
              refine xb_if_eq (tgt := 88) C d_Tr_isAbove_76 (by decide)  (fun c76 => ?_) (fun c76 => ?_)
              · skip
                have n76 : ¬ (0 ≤ (x : Int) ∧ 0 ≤ mk (x : Int).toNat ∧ mk (x : Int).toNat < 12) := of_decide_eq_false c76
                rw [show ((x : Int)).toNat = x by omega] at n76
                refine xr_aload_n C 0 d_Tr_isAbove_88 rfl hl0 ?_
                refine xr_iload C d_Tr_isAbove_89 hl4 ?_
                refine xr_callV (k9 := 1) C (m_Tr_isLeaf hw1 hw2 (fun j => (hC.2.2.1 j).1) (x := (y : Int)) (by omega)) xm_Tr_88 x2_Tr_isLeaf hw1 (by decide) rfl (by decide) (by decide) (Nat.le_of_ble_eq_true rfl) rfl d_Tr_isAbove_91 (fun En n9 ad9 w9 hx9 => hx9.elim) (fun v n9 ad9 w9 hp => ?_)
                obtain ⟨rfl, rfl, rfl, rfl⟩ := hp
                show XW _ _ _ _ _ _ 94 _ (_ :: _)
                refine xb_if_eq (tgt := 133) C d_Tr_isAbove_94 (by decide)  (fun c94 => ?_) (fun c94 => ?_)
                · skip
                  have n94 : ¬ (0 ≤ (y : Int) ∧ mk (y : Int).toNat < 0) := of_decide_eq_false c94
                  rw [show ((y : Int)).toNat = y by omega] at n94
                  refine xr_iconst C d_Tr_isAbove_133 ?_
                  have hux := um_eq sx
                  have huy := um_eq sy
                  exact xr_zret C E (by omega) ⟨rfl, rfl, rfl, by
                    rw [← hEq]
                    by_cases hh : 200 ≤ sSg S x ∨ 200 ≤ sSg S y
                    · rw [abv_hole (by omega) ho9 (by omega) hh]
                      first | rfl | (exfalso; unfold shp at sx sy; omega)
                    · rw [abv_leaf (by omega) ho9 (by omega) hh (by unfold shp at sx sy; omega)]
                      unfold shp at sx sy
                      first | exact xb_v1 (by omega) | exact xb_v0 (by omega)⟩ (by decide) (by decide) d_Tr_isAbove_134
                · skip
                  have n94 : (0 ≤ (y : Int) ∧ mk (y : Int).toNat < 0) := of_decide_eq_true c94
                  rw [show ((y : Int)).toNat = y by omega] at n94
                  refine xr_aload_n C 0 d_Tr_isAbove_97 rfl hl0 ?_
                  refine xr_iload_n C 3 d_Tr_isAbove_98 rfl hl3 ?_
                  refine xr_callV (k9 := 1) C (m_Tr_isNode hw1 hw2 (fun j => (hC.2.2.1 j).1) (x := (x : Int)) (by omega)) xm_Tr_80 x2_Tr_isNode hw1 (by decide) rfl (by decide) (by decide) (Nat.le_of_ble_eq_true rfl) rfl d_Tr_isAbove_99 (fun En n9 ad9 w9 hx9 => hx9.elim) (fun v n9 ad9 w9 hp => ?_)
                  obtain ⟨rfl, rfl, rfl, rfl⟩ := hp
                  show XW _ _ _ _ _ _ 102 _ (_ :: _)
                  refine xb_if_ne (tgt := 129) C d_Tr_isAbove_102 (by decide)  (fun c102 => ?_) (fun c102 => ?_)
                  · skip
                    have n102 : (0 ≤ (x : Int) ∧ 0 ≤ mk (x : Int).toNat ∧ mk (x : Int).toNat < 12) := of_decide_eq_true c102
                    rw [show ((x : Int)).toNat = x by omega] at n102
                    refine xr_iconst C d_Tr_isAbove_129 ?_
                    refine xr_goto (tgt := 134) C d_Tr_isAbove_130 (by decide) ?_
                    have hux := um_eq sx
                    have huy := um_eq sy
                    exact xr_zret C E (by omega) ⟨rfl, rfl, rfl, by
                      rw [← hEq]
                      by_cases hh : 200 ≤ sSg S x ∨ 200 ≤ sSg S y
                      · rw [abv_hole (by omega) ho9 (by omega) hh]
                        first | rfl | (exfalso; unfold shp at sx sy; omega)
                      · rw [abv_leaf (by omega) ho9 (by omega) hh (by unfold shp at sx sy; omega)]
                        unfold shp at sx sy
                        first | exact xb_v1 (by omega) | exact xb_v0 (by omega)⟩ (by decide) (by decide) d_Tr_isAbove_134
                  · skip
                    have n102 : ¬ (0 ≤ (x : Int) ∧ 0 ≤ mk (x : Int).toNat ∧ mk (x : Int).toNat < 12) := of_decide_eq_false c102
                    rw [show ((x : Int)).toNat = x by omega] at n102
                    refine xr_aload_n C 0 d_Tr_isAbove_105 rfl hl0 ?_
                    refine xr_iload_n C 3 d_Tr_isAbove_106 rfl hl3 ?_
                    refine xr_callV (k9 := 1) C (m_Tr_isLeaf hw1 hw2 (fun j => (hC.2.2.1 j).1) (x := (x : Int)) (by omega)) xm_Tr_88 x2_Tr_isLeaf hw1 (by decide) rfl (by decide) (by decide) (Nat.le_of_ble_eq_true rfl) rfl d_Tr_isAbove_107 (fun En n9 ad9 w9 hx9 => hx9.elim) (fun v n9 ad9 w9 hp => ?_)
                    obtain ⟨rfl, rfl, rfl, rfl⟩ := hp
                    show XW _ _ _ _ _ _ 110 _ (_ :: _)
                    refine xb_if_eq (tgt := 133) C d_Tr_isAbove_110 (by decide)  (fun c110 => ?_) (fun c110 => ?_)
                    · skip
                      have n110 : ¬ (0 ≤ (x : Int) ∧ mk (x : Int).toNat < 0) := of_decide_eq_false c110
                      rw [show ((x : Int)).toNat = x by omega] at n110
                      refine xr_iconst C d_Tr_isAbove_133 ?_
                      have hux := um_eq sx
                      have huy := um_eq sy
                      exact xr_zret C E (by omega) ⟨rfl, rfl, rfl, by
                        rw [← hEq]
                        by_cases hh : 200 ≤ sSg S x ∨ 200 ≤ sSg S y
                        · rw [abv_hole (by omega) ho9 (by omega) hh]
                          first | rfl | (exfalso; unfold shp at sx sy; omega)
                        · rw [abv_leaf (by omega) ho9 (by omega) hh (by unfold shp at sx sy; omega)]
                          unfold shp at sx sy
                          first | exact xb_v1 (by omega) | exact xb_v0 (by omega)⟩ (by decide) (by decide) d_Tr_isAbove_134
                    · skip
                      have n110 : (0 ≤ (x : Int) ∧ mk (x : Int).toNat < 0) := of_decide_eq_true c110
                      rw [show ((x : Int)).toNat = x by omega] at n110
                      refine xr_aload_n C 0 d_Tr_isAbove_113 rfl hl0 ?_
                      refine xr_get (k := 1) C xg_Tr_9 hw1 (by decide) rfl d_Tr_isAbove_114 ?_
                      refine xr_iload_n C 3 d_Tr_isAbove_117 rfl hl3 ?_
                      refine xj_iald (k := 2) C (x) (by omega) hw2 (by decide) (by omega) (by decide) d_Tr_isAbove_118 ?_
                      refine xr_aload_n C 0 d_Tr_isAbove_119 rfl hl0 ?_
                      refine xr_get (k := 1) C xg_Tr_9 hw1 (by decide) rfl d_Tr_isAbove_120 ?_
                      refine xr_iload C d_Tr_isAbove_123 hl4 ?_
                      refine xj_iald (k := 2) C (y) (by omega) hw2 (by decide) (by omega) (by decide) d_Tr_isAbove_125 ?_
                      refine xz_icmp_ge (tgt := 133) C d_Tr_isAbove_126 (by decide) (by omega) (by omega) (fun c126 => ?_) (fun c126 => ?_)
                      · skip
                        refine xr_iconst C d_Tr_isAbove_133 ?_
                        have hux := um_eq sx
                        have huy := um_eq sy
                        exact xr_zret C E (by omega) ⟨rfl, rfl, rfl, by
                          rw [← hEq]
                          by_cases hh : 200 ≤ sSg S x ∨ 200 ≤ sSg S y
                          · rw [abv_hole (by omega) ho9 (by omega) hh]
                            first | rfl | (exfalso; unfold shp at sx sy; omega)
                          · rw [abv_leaf (by omega) ho9 (by omega) hh (by unfold shp at sx sy; omega)]
                            unfold shp at sx sy
                            first | exact xb_v1 (by omega) | exact xb_v0 (by omega)⟩ (by decide) (by decide) d_Tr_isAbove_134
                      · skip
                        refine xr_iconst C d_Tr_isAbove_129 ?_
                        refine xr_goto (tgt := 134) C d_Tr_isAbove_130 (by decide) ?_
                        have hux := um_eq sx
                        have huy := um_eq sy
                        exact xr_zret C E (by omega) ⟨rfl, rfl, rfl, by
                          rw [← hEq]
                          by_cases hh : 200 ≤ sSg S x ∨ 200 ≤ sSg S y
                          · rw [abv_hole (by omega) ho9 (by omega) hh]
                            first | rfl | (exfalso; unfold shp at sx sy; omega)
                          · rw [abv_leaf (by omega) ho9 (by omega) hh (by unfold shp at sx sy; omega)]
                            unfold shp at sx sy
                            first | exact xb_v1 (by omega) | exact xb_v0 (by omega)⟩ (by decide) (by decide) d_Tr_isAbove_134
              · skip
                have n76 : (0 ≤ (x : Int) ∧ 0 ≤ mk (x : Int).toNat ∧ mk (x : Int).toNat < 12) := of_decide_eq_true c76
                rw [show ((x : Int)).toNat = x by omega] at n76
                refine xr_aload_n C 0 d_Tr_isAbove_79 rfl hl0 ?_
                refine xr_iload C d_Tr_isAbove_80 hl4 ?_
                refine xr_callV (k9 := 1) C (m_Tr_isNode hw1 hw2 (fun j => (hC.2.2.1 j).1) (x := (y : Int)) (by omega)) xm_Tr_80 x2_Tr_isNode hw1 (by decide) rfl (by decide) (by decide) (Nat.le_of_ble_eq_true rfl) rfl d_Tr_isAbove_82 (fun En n9 ad9 w9 hx9 => hx9.elim) (fun v n9 ad9 w9 hp => ?_)
                obtain ⟨rfl, rfl, rfl, rfl⟩ := hp
                show XW _ _ _ _ _ _ 85 _ (_ :: _)
                refine xb_if_ne (tgt := 135) C d_Tr_isAbove_85 (by decide)  (fun c85 => ?_) (fun c85 => ?_)
                · skip
                  have n85 : (0 ≤ (y : Int) ∧ 0 ≤ mk (y : Int).toNat ∧ mk (y : Int).toNat < 12) := of_decide_eq_true c85
                  rw [show ((y : Int)).toNat = y by omega] at n85
                  have hux := um_eq sx
                  have huy := um_eq sy
                  have hnx : sSg S x < 100 := by unfold shp at sx; omega
                  have hny : sSg S y < 100 := by unfold shp at sy; omega
                  refine xr_aload_n C 0 d_Tr_isAbove_135 rfl hl0 ?_
                  refine xr_get (k := 1) C xg_Tr_9 hw1 (by decide) rfl d_Tr_isAbove_136 ?_
                  refine xr_iload_n C 3 d_Tr_isAbove_139 rfl hl3 ?_
                  refine xj_iald (k := 2) C (x) (by omega) hw2 (by decide) (by omega) (by decide) d_Tr_isAbove_140 ?_
                  refine xr_aload_n C 0 d_Tr_isAbove_141 rfl hl0 ?_
                  refine xr_get (k := 1) C xg_Tr_9 hw1 (by decide) rfl d_Tr_isAbove_142 ?_
                  refine xr_iload C d_Tr_isAbove_145 hl4 ?_
                  refine xj_iald (k := 2) C (y) (by omega) hw2 (by decide) (by omega) (by decide) d_Tr_isAbove_147 ?_
                  refine xz_icmp_eq (tgt := 173) C d_Tr_isAbove_148 (by decide) (by omega) (by omega) (fun c148 => ?_) (fun c148 => ?_)
                  · skip
                    refine xr_aload_n C 0 d_Tr_isAbove_173 rfl hl0 ?_
                    refine xr_get (k := 1) C xg_Tr_15 hw1 (by decide) rfl d_Tr_isAbove_174 ?_
                    refine xr_iload_n C 3 d_Tr_isAbove_177 rfl hl3 ?_
                    refine xj_iald (k := 3) C (x) (by omega) hw3 (by decide) (by omega) (by decide) d_Tr_isAbove_178 ?_
                    refine xr_aload_n C 0 d_Tr_isAbove_179 rfl hl0 ?_
                    refine xr_get (k := 1) C xg_Tr_15 hw1 (by decide) rfl d_Tr_isAbove_180 ?_
                    refine xr_iload C d_Tr_isAbove_183 hl4 ?_
                    refine xj_iald (k := 3) C (y) (by omega) hw3 (by decide) (by omega) (by decide) d_Tr_isAbove_185 ?_
                    refine xz_icmp_eq (tgt := 193) C d_Tr_isAbove_186 (by decide) (by omega) (by omega) (fun c186 => ?_) (fun c186 => ?_)
                    · skip
                      have hfe : sFs S x = sFs S y := by omega
                      have h2x : 6 ≤ sSg S x := by
                        unfold shp at sx sy
                        rcases Int.lt_or_le (sSg S x) 6 with q | q
                        · exact absurd (hT.2.2 x y (by omega) (by omega) (by omega) hfe (by omega)) (by omega)
                        · exact q
                      refine xr_iconst C d_Tr_isAbove_193 ?_
                      refine xr_istore C d_Tr_isAbove_194 (by decide) ?_
                      refine xr_iload C d_Tr_isAbove_196 rfl ?_
                      refine xz_if_eq (tgt := 210) C d_Tr_isAbove_198 (by decide) (by omega) (fun c198 => ?_) (fun c198 => by exfalso; omega)
                      refine xr_aload_n C 0 d_Tr_isAbove_210 rfl hl0 ?_
                      refine xr_get (k := 1) C xg_Tr_18 hw1 (by decide) rfl d_Tr_isAbove_211 ?_
                      refine xr_iload_n C 3 d_Tr_isAbove_214 rfl hl3 ?_
                      refine xj_iald (k := 4) C (x) (by omega) hw4 (by decide) (by omega) (by decide) d_Tr_isAbove_215 ?_
                      refine xr_istore_n C 3 d_Tr_isAbove_216 rfl (by decide) ?_
                      refine xr_iload C d_Tr_isAbove_217 rfl ?_
                      refine xz_if_eq (tgt := 232) C d_Tr_isAbove_219 (by decide) (by omega) (fun c219 => ?_) (fun c219 => by exfalso; omega)
                      refine xr_aload_n C 0 d_Tr_isAbove_232 rfl hl0 ?_
                      refine xr_get (k := 1) C xg_Tr_18 hw1 (by decide) rfl d_Tr_isAbove_233 ?_
                      refine xr_iload C d_Tr_isAbove_236 hl4 ?_
                      refine xj_iald (k := 4) C (y) (by omega) hw4 (by decide) (by omega) (by decide) d_Tr_isAbove_238 ?_
                      refine xr_istore C d_Tr_isAbove_239 (by decide) ?_
                      refine xr_iinc C d_Tr_isAbove_241 (by decide) hl5 ?_
                      refine xr_goto (tgt := 8) C d_Tr_isAbove_244 (by decide) ?_
                      have hdc := dp_child hT (show x < sN S by omega)
                      unfold shp at sx sy
                      first
                        | exact ih (sFs S x).toNat (sFs S y).toNat (l + 1) _ (by omega) (by omega) (by omega) (by omega) (by rw [← hEq, abv_fst (by omega) ho9 (by omega) hnx hny (by omega) hfe (by omega)]) hl0 (by show some (Value.int (zI (fs x))) = _; rw [mx2, show (((sFs S x).toNat : Nat) : Int) = sFs S x by omega]) (by show some (Value.int (zI (fs y))) = _; rw [my2, show (((sFs S y).toNat : Nat) : Int) = sFs S y by omega]) rfl
                        | exact ih (sSn S x).toNat (sSn S y).toNat (l + 1) _ (by omega) (by omega) (by omega) (by omega) (by rw [← hEq, abv_snd (by omega) ho9 (by omega) hnx hny (by omega) hfe (by omega)]) hl0 (by show some (Value.int (zI (sn x))) = _; rw [mx3, show (((sSn S x).toNat : Nat) : Int) = sSn S x by omega]) (by show some (Value.int (zI (sn y))) = _; rw [my3, show (((sSn S y).toNat : Nat) : Int) = sSn S y by omega]) rfl
                    · skip
                      have hfe : ¬ sFs S x = sFs S y := by omega
                      refine xr_iconst C d_Tr_isAbove_189 ?_
                      refine xr_goto (tgt := 194) C d_Tr_isAbove_190 (by decide) ?_
                      refine xr_istore C d_Tr_isAbove_194 (by decide) ?_
                      refine xr_iload C d_Tr_isAbove_196 rfl ?_
                      refine xz_if_eq (tgt := 210) C d_Tr_isAbove_198 (by decide) (by omega) (fun c198 => by exfalso; omega) (fun c198 => ?_)
                      refine xr_aload_n C 0 d_Tr_isAbove_201 rfl hl0 ?_
                      refine xr_get (k := 1) C xg_Tr_15 hw1 (by decide) rfl d_Tr_isAbove_202 ?_
                      refine xr_iload_n C 3 d_Tr_isAbove_205 rfl hl3 ?_
                      refine xj_iald (k := 3) C (x) (by omega) hw3 (by decide) (by omega) (by decide) d_Tr_isAbove_206 ?_
                      refine xr_goto (tgt := 216) C d_Tr_isAbove_207 (by decide) ?_
                      refine xr_istore_n C 3 d_Tr_isAbove_216 rfl (by decide) ?_
                      refine xr_iload C d_Tr_isAbove_217 rfl ?_
                      refine xz_if_eq (tgt := 232) C d_Tr_isAbove_219 (by decide) (by omega) (fun c219 => by exfalso; omega) (fun c219 => ?_)
                      refine xr_aload_n C 0 d_Tr_isAbove_222 rfl hl0 ?_
                      refine xr_get (k := 1) C xg_Tr_15 hw1 (by decide) rfl d_Tr_isAbove_223 ?_
                      refine xr_iload C d_Tr_isAbove_226 hl4 ?_
                      refine xj_iald (k := 3) C (y) (by omega) hw3 (by decide) (by omega) (by decide) d_Tr_isAbove_228 ?_
                      refine xr_goto (tgt := 239) C d_Tr_isAbove_229 (by decide) ?_
                      refine xr_istore C d_Tr_isAbove_239 (by decide) ?_
                      refine xr_iinc C d_Tr_isAbove_241 (by decide) hl5 ?_
                      refine xr_goto (tgt := 8) C d_Tr_isAbove_244 (by decide) ?_
                      have hdc := dp_child hT (show x < sN S by omega)
                      unfold shp at sx sy
                      first
                        | exact ih (sFs S x).toNat (sFs S y).toNat (l + 1) _ (by omega) (by omega) (by omega) (by omega) (by rw [← hEq, abv_fst (by omega) ho9 (by omega) hnx hny (by omega) hfe (by omega)]) hl0 (by show some (Value.int (zI (fs x))) = _; rw [mx2, show (((sFs S x).toNat : Nat) : Int) = sFs S x by omega]) (by show some (Value.int (zI (fs y))) = _; rw [my2, show (((sFs S y).toNat : Nat) : Int) = sFs S y by omega]) rfl
                        | exact ih (sSn S x).toNat (sSn S y).toNat (l + 1) _ (by omega) (by omega) (by omega) (by omega) (by rw [← hEq, abv_snd (by omega) ho9 (by omega) hnx hny (by omega) hfe (by omega)]) hl0 (by show some (Value.int (zI (sn x))) = _; rw [mx3, show (((sSn S x).toNat : Nat) : Int) = sSn S x by omega]) (by show some (Value.int (zI (sn y))) = _; rw [my3, show (((sSn S y).toNat : Nat) : Int) = sSn S y by omega]) rfl
                  · skip
                    refine xr_aload_n C 0 d_Tr_isAbove_151 rfl hl0 ?_
                    refine xr_get (k := 1) C xg_Tr_9 hw1 (by decide) rfl d_Tr_isAbove_152 ?_
                    refine xr_iload_n C 3 d_Tr_isAbove_155 rfl hl3 ?_
                    refine xj_iald (k := 2) C (x) (by omega) hw2 (by decide) (by omega) (by decide) d_Tr_isAbove_156 ?_
                    refine xr_aload_n C 0 d_Tr_isAbove_157 rfl hl0 ?_
                    refine xr_get (k := 1) C xg_Tr_9 hw1 (by decide) rfl d_Tr_isAbove_158 ?_
                    refine xr_iload C d_Tr_isAbove_161 hl4 ?_
                    refine xj_iald (k := 2) C (y) (by omega) hw2 (by decide) (by omega) (by decide) d_Tr_isAbove_163 ?_
                    refine xz_icmp_le (tgt := 171) C d_Tr_isAbove_164 (by decide) (by omega) (by omega) (fun c164 => ?_) (fun c164 => ?_)
                    · skip
                      refine xr_iconst C d_Tr_isAbove_171 ?_
                      exact xr_zret C E (by omega) ⟨rfl, rfl, rfl, by rw [← hEq, abv_head (by omega) ho9 (by omega) hnx hny (by omega)]; first | exact xb_v1 (by omega) | exact xb_v0 (by omega)⟩ (by decide) (by decide) d_Tr_isAbove_172
                    · skip
                      refine xr_iconst C d_Tr_isAbove_167 ?_
                      refine xr_goto (tgt := 172) C d_Tr_isAbove_168 (by decide) ?_
                      exact xr_zret C E (by omega) ⟨rfl, rfl, rfl, by rw [← hEq, abv_head (by omega) ho9 (by omega) hnx hny (by omega)]; first | exact xb_v1 (by omega) | exact xb_v0 (by omega)⟩ (by decide) (by decide) d_Tr_isAbove_172
                · skip
                  have n85 : ¬ (0 ≤ (y : Int) ∧ 0 ≤ mk (y : Int).toNat ∧ mk (y : Int).toNat < 12) := of_decide_eq_false c85
                  rw [show ((y : Int)).toNat = y by omega] at n85
                  refine xr_aload_n C 0 d_Tr_isAbove_88 rfl hl0 ?_
                  refine xr_iload C d_Tr_isAbove_89 hl4 ?_
                  refine xr_callV (k9 := 1) C (m_Tr_isLeaf hw1 hw2 (fun j => (hC.2.2.1 j).1) (x := (y : Int)) (by omega)) xm_Tr_88 x2_Tr_isLeaf hw1 (by decide) rfl (by decide) (by decide) (Nat.le_of_ble_eq_true rfl) rfl d_Tr_isAbove_91 (fun En n9 ad9 w9 hx9 => hx9.elim) (fun v n9 ad9 w9 hp => ?_)
                  obtain ⟨rfl, rfl, rfl, rfl⟩ := hp
                  show XW _ _ _ _ _ _ 94 _ (_ :: _)
                  refine xb_if_eq (tgt := 133) C d_Tr_isAbove_94 (by decide)  (fun c94 => ?_) (fun c94 => ?_)
                  · skip
                    have n94 : ¬ (0 ≤ (y : Int) ∧ mk (y : Int).toNat < 0) := of_decide_eq_false c94
                    rw [show ((y : Int)).toNat = y by omega] at n94
                    refine xr_iconst C d_Tr_isAbove_133 ?_
                    have hux := um_eq sx
                    have huy := um_eq sy
                    exact xr_zret C E (by omega) ⟨rfl, rfl, rfl, by
                      rw [← hEq]
                      by_cases hh : 200 ≤ sSg S x ∨ 200 ≤ sSg S y
                      · rw [abv_hole (by omega) ho9 (by omega) hh]
                        first | rfl | (exfalso; unfold shp at sx sy; omega)
                      · rw [abv_leaf (by omega) ho9 (by omega) hh (by unfold shp at sx sy; omega)]
                        unfold shp at sx sy
                        first | exact xb_v1 (by omega) | exact xb_v0 (by omega)⟩ (by decide) (by decide) d_Tr_isAbove_134
                  · skip
                    have n94 : (0 ≤ (y : Int) ∧ mk (y : Int).toNat < 0) := of_decide_eq_true c94
                    rw [show ((y : Int)).toNat = y by omega] at n94
                    refine xr_aload_n C 0 d_Tr_isAbove_97 rfl hl0 ?_
                    refine xr_iload_n C 3 d_Tr_isAbove_98 rfl hl3 ?_
                    refine xr_callV (k9 := 1) C (m_Tr_isNode hw1 hw2 (fun j => (hC.2.2.1 j).1) (x := (x : Int)) (by omega)) xm_Tr_80 x2_Tr_isNode hw1 (by decide) rfl (by decide) (by decide) (Nat.le_of_ble_eq_true rfl) rfl d_Tr_isAbove_99 (fun En n9 ad9 w9 hx9 => hx9.elim) (fun v n9 ad9 w9 hp => ?_)
                    obtain ⟨rfl, rfl, rfl, rfl⟩ := hp
                    show XW _ _ _ _ _ _ 102 _ (_ :: _)
                    refine xb_if_ne (tgt := 129) C d_Tr_isAbove_102 (by decide)  (fun c102 => ?_) (fun c102 => ?_)
                    · skip
                      have n102 : (0 ≤ (x : Int) ∧ 0 ≤ mk (x : Int).toNat ∧ mk (x : Int).toNat < 12) := of_decide_eq_true c102
                      rw [show ((x : Int)).toNat = x by omega] at n102
                      refine xr_iconst C d_Tr_isAbove_129 ?_
                      refine xr_goto (tgt := 134) C d_Tr_isAbove_130 (by decide) ?_
                      have hux := um_eq sx
                      have huy := um_eq sy
                      exact xr_zret C E (by omega) ⟨rfl, rfl, rfl, by
                        rw [← hEq]
                        by_cases hh : 200 ≤ sSg S x ∨ 200 ≤ sSg S y
                        · rw [abv_hole (by omega) ho9 (by omega) hh]
                          first | rfl | (exfalso; unfold shp at sx sy; omega)
                        · rw [abv_leaf (by omega) ho9 (by omega) hh (by unfold shp at sx sy; omega)]
                          unfold shp at sx sy
                          first | exact xb_v1 (by omega) | exact xb_v0 (by omega)⟩ (by decide) (by decide) d_Tr_isAbove_134
                    · skip
                      have n102 : ¬ (0 ≤ (x : Int) ∧ 0 ≤ mk (x : Int).toNat ∧ mk (x : Int).toNat < 12) := of_decide_eq_false c102
                      rw [show ((x : Int)).toNat = x by omega] at n102
                      refine xr_aload_n C 0 d_Tr_isAbove_105 rfl hl0 ?_
                      refine xr_iload_n C 3 d_Tr_isAbove_106 rfl hl3 ?_
                      refine xr_callV (k9 := 1) C (m_Tr_isLeaf hw1 hw2 (fun j => (hC.2.2.1 j).1) (x := (x : Int)) (by omega)) xm_Tr_88 x2_Tr_isLeaf hw1 (by decide) rfl (by decide) (by decide) (Nat.le_of_ble_eq_true rfl) rfl d_Tr_isAbove_107 (fun En n9 ad9 w9 hx9 => hx9.elim) (fun v n9 ad9 w9 hp => ?_)
                      obtain ⟨rfl, rfl, rfl, rfl⟩ := hp
                      show XW _ _ _ _ _ _ 110 _ (_ :: _)
                      refine xb_if_eq (tgt := 133) C d_Tr_isAbove_110 (by decide)  (fun c110 => ?_) (fun c110 => ?_)
                      · skip
                        have n110 : ¬ (0 ≤ (x : Int) ∧ mk (x : Int).toNat < 0) := of_decide_eq_false c110
                        rw [show ((x : Int)).toNat = x by omega] at n110
                        refine xr_iconst C d_Tr_isAbove_133 ?_
                        have hux := um_eq sx
                        have huy := um_eq sy
                        exact xr_zret C E (by omega) ⟨rfl, rfl, rfl, by
                          rw [← hEq]
                          by_cases hh : 200 ≤ sSg S x ∨ 200 ≤ sSg S y
                          · rw [abv_hole (by omega) ho9 (by omega) hh]
                            first | rfl | (exfalso; unfold shp at sx sy; omega)
                          · rw [abv_leaf (by omega) ho9 (by omega) hh (by unfold shp at sx sy; omega)]
                            unfold shp at sx sy
                            first | exact xb_v1 (by omega) | exact xb_v0 (by omega)⟩ (by decide) (by decide) d_Tr_isAbove_134
                      · skip
                        have n110 : (0 ≤ (x : Int) ∧ mk (x : Int).toNat < 0) := of_decide_eq_true c110
                        rw [show ((x : Int)).toNat = x by omega] at n110
                        refine xr_aload_n C 0 d_Tr_isAbove_113 rfl hl0 ?_
                        refine xr_get (k := 1) C xg_Tr_9 hw1 (by decide) rfl d_Tr_isAbove_114 ?_
                        refine xr_iload_n C 3 d_Tr_isAbove_117 rfl hl3 ?_
                        refine xj_iald (k := 2) C (x) (by omega) hw2 (by decide) (by omega) (by decide) d_Tr_isAbove_118 ?_
                        refine xr_aload_n C 0 d_Tr_isAbove_119 rfl hl0 ?_
                        refine xr_get (k := 1) C xg_Tr_9 hw1 (by decide) rfl d_Tr_isAbove_120 ?_
                        refine xr_iload C d_Tr_isAbove_123 hl4 ?_
                        refine xj_iald (k := 2) C (y) (by omega) hw2 (by decide) (by omega) (by decide) d_Tr_isAbove_125 ?_
                        refine xz_icmp_ge (tgt := 133) C d_Tr_isAbove_126 (by decide) (by omega) (by omega) (fun c126 => ?_) (fun c126 => ?_)
                        · skip
                          refine xr_iconst C d_Tr_isAbove_133 ?_
                          have hux := um_eq sx
                          have huy := um_eq sy
                          exact xr_zret C E (by omega) ⟨rfl, rfl, rfl, by
                            rw [← hEq]
                            by_cases hh : 200 ≤ sSg S x ∨ 200 ≤ sSg S y
                            · rw [abv_hole (by omega) ho9 (by omega) hh]
                              first | rfl | (exfalso; unfold shp at sx sy; omega)
                            · rw [abv_leaf (by omega) ho9 (by omega) hh (by unfold shp at sx sy; omega)]
                              unfold shp at sx sy
                              first | exact xb_v1 (by omega) | exact xb_v0 (by omega)⟩ (by decide) (by decide) d_Tr_isAbove_134
                        · skip
                          refine xr_iconst C d_Tr_isAbove_129 ?_
                          refine xr_goto (tgt := 134) C d_Tr_isAbove_130 (by decide) ?_
                          have hux := um_eq sx
                          have huy := um_eq sy
                          exact xr_zret C E (by omega) ⟨rfl, rfl, rfl, by
                            rw [← hEq]
                            by_cases hh : 200 ≤ sSg S x ∨ 200 ≤ sSg S y
                            · rw [abv_hole (by omega) ho9 (by omega) hh]
                              first | rfl | (exfalso; unfold shp at sx sy; omega)
                            · rw [abv_leaf (by omega) ho9 (by omega) hh (by unfold shp at sx sy; omega)]
                              unfold shp at sx sy
                              first | exact xb_v1 (by omega) | exact xb_v0 (by omega)⟩ (by decide) (by decide) d_Tr_isAbove_134
            · skip
              refine xr_aload_n C 0 d_Tr_isAbove_49 rfl hl0 ?_
              refine xr_get (k := 1) C xg_Tr_21 hw1 (by decide) rfl d_Tr_isAbove_50 ?_
              refine xr_iload_n C 3 d_Tr_isAbove_53 rfl hl3 ?_
              refine xj_iald (k := 5) C (x) (by omega) hw5 (by decide) (by omega) (by decide) d_Tr_isAbove_54 ?_
              refine xr_aload_n C 0 d_Tr_isAbove_55 rfl hl0 ?_
              refine xr_get (k := 1) C xg_Tr_21 hw1 (by decide) rfl d_Tr_isAbove_56 ?_
              refine xr_iload C d_Tr_isAbove_59 hl4 ?_
              refine xj_iald (k := 5) C (y) (by omega) hw5 (by decide) (by omega) (by decide) d_Tr_isAbove_61 ?_
              refine xz_icmp_le (tgt := 69) C d_Tr_isAbove_62 (by decide) (by omega) (by omega) (fun c62 => ?_) (fun c62 => ?_)
              · skip
                refine xr_iconst C d_Tr_isAbove_69 ?_
                exact xr_zret C E (by omega) ⟨rfl, rfl, rfl, by rw [← hEq, abv_wt (by omega) ho9 (by omega)]; first | exact xb_v1 (by omega) | exact xb_v0 (by omega)⟩ (by decide) (by decide) d_Tr_isAbove_70
              · skip
                refine xr_iconst C d_Tr_isAbove_65 ?_
                refine xr_goto (tgt := 70) C d_Tr_isAbove_66 (by decide) ?_
                exact xr_zret C E (by omega) ⟨rfl, rfl, rfl, by rw [← hEq, abv_wt (by omega) ho9 (by omega)]; first | exact xb_v1 (by omega) | exact xb_v0 (by omega)⟩ (by decide) (by decide) d_Tr_isAbove_70
          · skip
            have ho9 : hoS S x y = false := by rw [← hoS_hc hC.2.1 (by omega) (by omega)]; exact c28
            refine xr_iconst C d_Tr_isAbove_31 ?_
            exact xr_zret C E (by omega) ⟨rfl, rfl, rfl, by rw [← hEq, abv_ho (by omega) ho9]; rfl⟩ (by decide) (by decide) d_Tr_isAbove_32
  refine xr_iload_n C 1 d_Tr_isAbove_0 rfl rfl ?_
  refine xr_istore_n C 3 d_Tr_isAbove_1 rfl (by decide) ?_
  refine xr_iload_n C 2 d_Tr_isAbove_2 rfl rfl ?_
  refine xr_istore C d_Tr_isAbove_3 (by decide) ?_
  refine xr_iconst C d_Tr_isAbove_5 ?_
  refine xr_istore C d_Tr_isAbove_6 (by decide) ?_
  exact lp (x0 + 1) x0 y0 0 _ (by omega) hx hy (by have := (hT.2.1 x0 hx).2.2.2.2.2; omega) rfl rfl rfl rfl rfl
