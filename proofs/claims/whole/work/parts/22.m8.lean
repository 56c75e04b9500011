set_option maxHeartbeats 4000000 in
set_option maxRecDepth 100000 in
theorem m_RS_node {L : Launch} {D : va_G} {cA : Nat → ClassId} {base : Nat} {ad : Nat → Nat} {w : Nat → va_E} (hLt : L.stackTraces = false) {kp sq : Nat} {ls : Int} {se : Bool} (hw0 : w 0 = rsO ad kp sq ls se) {S : xS} (hCT : CT ad cA w S) (hT : Tb S) {h : Int} (hh9 : -2147483648 ≤ h ∧ h < 2147483648) {x : Int} (hx : -2147483648 ≤ x ∧ x < 2147483648) {y : Int} (hy : -2147483648 ≤ y ∧ y < 2147483648) : XM L D cA base y_RS_node c_RS_node 5 (some .int) (xrm 9 3 18) [.ref (ad 0), .int (zI h), .int (zI x), .int (zI y)] 56 ad w (xRet 56 ad (fun z w' => ((0 ≤ x ∧ x < sN S) ∧ ((0 ≤ y ∧ y < sN S) ∨ (y = -1 ∧ h < 6))) ∧ ((0 ≤ h ∧ h < 12) ∧ (h < 6 → y = -1)) ∧ ∃ S' : xS, (z, S') = mkT S h x y ∧ 0 ≤ z ∧ Tb S' ∧ CT ad cA w' S' ∧ (∀ k, (k < 1 ∨ 11 < k) → w' k = w k))) (xThr 56 ad (fun E w' => (E = "java/lang/IndexOutOfBoundsException" ∧ ¬ ((0 ≤ x ∧ x < sN S) ∧ ((0 ≤ y ∧ y < sN S) ∨ (y = -1 ∧ h < 6))) ∧ w = w') ∨ (E = "java/lang/IllegalArgumentException" ∧ ((0 ≤ x ∧ x < sN S) ∧ ((0 ≤ y ∧ y < sN S) ∨ (y = -1 ∧ h < 6))) ∧ ¬ ((0 ≤ h ∧ h < 12) ∧ (h < 6 → y = -1)) ∧ w = w') ∨ (E = "java/lang/IllegalStateException" ∧ ((0 ≤ x ∧ x < sN S) ∧ ((0 ≤ y ∧ y < sN S) ∨ (y = -1 ∧ h < 6))) ∧ ((0 ≤ h ∧ h < 12) ∧ (h < 6 → y = -1)) ∧ ∃ (S' : xS) (z : Int), (z, S') = mkT S h x y ∧ z < 0 ∧ CT ad cA w' S ∧ (∀ k, (k < 1 ∨ 11 < k) → w' k = w k)))) := by
  refine xm_of (by decide +kernel) (by simp [Value.category]) (Nat.le_of_ble_eq_true rfl) (fun G C E _ => ?_)
  have hN := hT.1
  have hw1 := ct_1 hCT
  refine xr_iload_n C 1 d_RS_node_0 rfl rfl ?_
  refine xr_bipush C d_RS_node_1 (by decide) ?_
  refine xz_icmp_ge (tgt := 10) C d_RS_node_3 (by decide) (by omega) (by omega) (fun c3 => ?_) (fun c3 => ?_)
  · skip
    refine xr_iconst C d_RS_node_10 ?_
    refine xr_istore C d_RS_node_11 (by decide) ?_
    refine xr_aload_n C 0 d_RS_node_13 rfl rfl ?_
    refine xr_iload_n C 2 d_RS_node_14 rfl rfl ?_
    refine xr_callV (k9 := 0) C (m_RS_needTree hLt hw0 hw1 (by omega) (x := x) (by omega)) xm_RS_67 x2_RS_needTree hw0 (by decide) rfl (by decide) (by decide) (Nat.le_of_ble_eq_true rfl) rfl d_RS_node_15 (fun En n9 ad9 w9 hx9 => by
            obtain ⟨rfl, rfl, rfl, rfl, hq⟩ := hx9
            exact xx_out C E ⟨rfl, rfl, Or.inl ⟨rfl, by omega, rfl⟩⟩ (by decide) (by decide)) (fun v n9 ad9 w9 hp => ?_)
    obtain ⟨rfl, rfl, rfl, rfl, hq0a, hq1a⟩ := hp
    refine xr_iload C d_RS_node_18 rfl ?_
    refine xz_if_eq (tgt := 28) C d_RS_node_20 (by decide) (by omega) (fun c20 => ?_) (fun c20 => by exfalso; omega)
    refine xr_aload_n C 0 d_RS_node_28 rfl rfl ?_
    refine xr_iload_n C 3 d_RS_node_29 rfl rfl ?_
    refine xr_callV (k9 := 0) C (m_RS_needTree hLt hw0 hw1 (by omega) (x := y) (by omega)) xm_RS_67 x2_RS_needTree hw0 (by decide) rfl (by decide) (by decide) (Nat.le_of_ble_eq_true rfl) rfl d_RS_node_30 (fun En n9 ad9 w9 hx9 => by
            obtain ⟨rfl, rfl, rfl, rfl, hq⟩ := hx9
            exact xx_out C E ⟨rfl, rfl, Or.inl ⟨rfl, by omega, rfl⟩⟩ (by decide) (by decide)) (fun v n9 ad9 w9 hp => ?_)
    obtain ⟨rfl, rfl, rfl, rfl, hq0b, hq1b⟩ := hp
    refine xr_iload_n C 1 d_RS_node_33 rfl rfl ?_
    refine xz_if_lt (tgt := 53) C d_RS_node_34 (by decide) (by omega) (fun c34 => ?_) (fun c34 => ?_)
    · skip
      exact xr_throw C E hLt (cls := "java/lang/IllegalArgumentException") (text := "no such head, or a part too many") (names := ["java/lang/RuntimeException", "java/lang/Exception"]) rfl (by decide +kernel) (by decide +kernel) xk_RS_50 xi_IA (by decide +kernel) xat_IA (by decide +kernel) d_RS_node_53 d_RS_node_56 d_RS_node_57 d_RS_node_59 d_RS_node_62 (by decide) (by decide) ⟨rfl, rfl, Or.inr (Or.inl ⟨rfl, by omega, by omega, rfl⟩)⟩ (by decide) (by decide)
    · skip
      refine xr_iload_n C 1 d_RS_node_37 rfl rfl ?_
      refine xr_bipush C d_RS_node_38 (by decide) ?_
      refine xz_icmp_ge (tgt := 53) C d_RS_node_40 (by decide) (by omega) (by omega) (fun c40 => ?_) (fun c40 => ?_)
      · skip
        exact xr_throw C E hLt (cls := "java/lang/IllegalArgumentException") (text := "no such head, or a part too many") (names := ["java/lang/RuntimeException", "java/lang/Exception"]) rfl (by decide +kernel) (by decide +kernel) xk_RS_50 xi_IA (by decide +kernel) xat_IA (by decide +kernel) d_RS_node_53 d_RS_node_56 d_RS_node_57 d_RS_node_59 d_RS_node_62 (by decide) (by decide) ⟨rfl, rfl, Or.inr (Or.inl ⟨rfl, by omega, by omega, rfl⟩)⟩ (by decide) (by decide)
      · skip
        refine xr_iload C d_RS_node_43 rfl ?_
        refine xz_if_eq (tgt := 63) C d_RS_node_45 (by decide) (by omega) (fun c45 => ?_) (fun c45 => by exfalso; omega)
        refine xr_aload_n C 0 d_RS_node_63 rfl rfl ?_
        refine xr_get (k := 0) C xg_RS_10 hw0 (by decide) rfl d_RS_node_64 ?_
        refine xr_iload_n C 1 d_RS_node_67 rfl rfl ?_
        refine xr_eqz (y := um h) (by unfold um; rw [if_neg (by omega), if_neg (by omega)]) ?_
        have hsh : shp h x y (sN S) := by unfold shp; omega
        refine xr_iload_n C 2 d_RS_node_68 rfl rfl ?_
        refine xr_iload_n C 3 d_RS_node_69 rfl rfl ?_
        refine xr_callV (k9 := 1) C (m_Tr_numberOf (s := h) (a := x) (b := y) hCT hT hsh) xm_RS_57 x2_Tr_numberOf hw1 (by decide) rfl (by decide) (by decide) (Nat.le_of_ble_eq_true rfl) rfl d_RS_node_70 (fun En n9 ad9 w9 hx9 => hx9.elim) (fun v n9 ad9 w9 hp => ?_)
        obtain ⟨rfl, rfl, z, rfl, S', hz, hCT', hfr⟩ := hp
        obtain ⟨hT', hz1, hz2, hz3⟩ := mkT_pos hT hsh hz
        have hN' := hT'.1
        have hw0 := (hfr 0 (by omega)).trans hw0
        show XW _ _ _ _ _ _ 73 _ (_ :: _)
        refine xr_callS C (m_RS_needMade hLt (x := z) (by omega)) xm_RS_61 x2_RS_needMade (by decide) (by decide) (Nat.le_of_ble_eq_true rfl) rfl d_RS_node_73 (fun En n9 ad9 w9 hx9 => by
                obtain ⟨rfl, rfl, rfl, rfl, hq⟩ := hx9
                exact xx_out C E ⟨rfl, rfl, Or.inr (Or.inr ⟨rfl, by omega, by omega, S', z, hz, hq, by have := mkT_neg hz hq; subst this; exact hCT', hfr⟩)⟩ (by decide) (by decide)) (fun v n9 ad9 w9 hp => ?_)
        obtain ⟨rfl, rfl, z9, rfl, rfl, rfl, hz0⟩ := hp
        show XW _ _ _ _ _ _ 76 _ (_ :: _)
        exact xr_iret C E ⟨rfl, rfl, _, rfl, by omega, by omega, S', hz, hz0, hT', hCT', hfr⟩ (by decide) (by decide) d_RS_node_76
  · skip
    refine xr_iconst C d_RS_node_6 ?_
    refine xr_goto (tgt := 11) C d_RS_node_7 (by decide) ?_
    refine xr_istore C d_RS_node_11 (by decide) ?_
    refine xr_aload_n C 0 d_RS_node_13 rfl rfl ?_
    refine xr_iload_n C 2 d_RS_node_14 rfl rfl ?_
    refine xr_callV (k9 := 0) C (m_RS_needTree hLt hw0 hw1 (by omega) (x := x) (by omega)) xm_RS_67 x2_RS_needTree hw0 (by decide) rfl (by decide) (by decide) (Nat.le_of_ble_eq_true rfl) rfl d_RS_node_15 (fun En n9 ad9 w9 hx9 => by
            obtain ⟨rfl, rfl, rfl, rfl, hq⟩ := hx9
            exact xx_out C E ⟨rfl, rfl, Or.inl ⟨rfl, by omega, rfl⟩⟩ (by decide) (by decide)) (fun v n9 ad9 w9 hp => ?_)
    obtain ⟨rfl, rfl, rfl, rfl, hq0a, hq1a⟩ := hp
    refine xr_iload C d_RS_node_18 rfl ?_
    refine xz_if_eq (tgt := 28) C d_RS_node_20 (by decide) (by omega) (fun c20 => by exfalso; omega) (fun c20 => ?_)
    refine xr_iload_n C 3 d_RS_node_23 rfl rfl ?_
    refine xr_iconst C d_RS_node_24 ?_
    refine xz_icmp_eq (tgt := 33) C d_RS_node_25 (by decide) (by omega) (by omega) (fun c25 => ?_) (fun c25 => ?_)
    · skip
      refine xr_iload_n C 1 d_RS_node_33 rfl rfl ?_
      refine xz_if_lt (tgt := 53) C d_RS_node_34 (by decide) (by omega) (fun c34 => ?_) (fun c34 => ?_)
      · skip
        exact xr_throw C E hLt (cls := "java/lang/IllegalArgumentException") (text := "no such head, or a part too many") (names := ["java/lang/RuntimeException", "java/lang/Exception"]) rfl (by decide +kernel) (by decide +kernel) xk_RS_50 xi_IA (by decide +kernel) xat_IA (by decide +kernel) d_RS_node_53 d_RS_node_56 d_RS_node_57 d_RS_node_59 d_RS_node_62 (by decide) (by decide) ⟨rfl, rfl, Or.inr (Or.inl ⟨rfl, by omega, by omega, rfl⟩)⟩ (by decide) (by decide)
      · skip
        refine xr_iload_n C 1 d_RS_node_37 rfl rfl ?_
        refine xr_bipush C d_RS_node_38 (by decide) ?_
        refine xz_icmp_ge (tgt := 53) C d_RS_node_40 (by decide) (by omega) (by omega) (fun c40 => ?_) (fun c40 => ?_)
        · skip
          exact xr_throw C E hLt (cls := "java/lang/IllegalArgumentException") (text := "no such head, or a part too many") (names := ["java/lang/RuntimeException", "java/lang/Exception"]) rfl (by decide +kernel) (by decide +kernel) xk_RS_50 xi_IA (by decide +kernel) xat_IA (by decide +kernel) d_RS_node_53 d_RS_node_56 d_RS_node_57 d_RS_node_59 d_RS_node_62 (by decide) (by decide) ⟨rfl, rfl, Or.inr (Or.inl ⟨rfl, by omega, by omega, rfl⟩)⟩ (by decide) (by decide)
        · skip
          refine xr_iload C d_RS_node_43 rfl ?_
          refine xz_if_eq (tgt := 63) C d_RS_node_45 (by decide) (by omega) (fun c45 => by exfalso; omega) (fun c45 => ?_)
          refine xr_iload_n C 3 d_RS_node_48 rfl rfl ?_
          refine xr_iconst C d_RS_node_49 ?_
          refine xz_icmp_eq (tgt := 63) C d_RS_node_50 (by decide) (by omega) (by omega) (fun c50 => ?_) (fun c50 => ?_)
          · skip
            refine xr_aload_n C 0 d_RS_node_63 rfl rfl ?_
            refine xr_get (k := 0) C xg_RS_10 hw0 (by decide) rfl d_RS_node_64 ?_
            refine xr_iload_n C 1 d_RS_node_67 rfl rfl ?_
            refine xr_eqz (y := um h) (by unfold um; rw [if_neg (by omega), if_neg (by omega)]) ?_
            have hsh : shp h x y (sN S) := by unfold shp; omega
            refine xr_iload_n C 2 d_RS_node_68 rfl rfl ?_
            refine xr_iload_n C 3 d_RS_node_69 rfl rfl ?_
            refine xr_callV (k9 := 1) C (m_Tr_numberOf (s := h) (a := x) (b := y) hCT hT hsh) xm_RS_57 x2_Tr_numberOf hw1 (by decide) rfl (by decide) (by decide) (Nat.le_of_ble_eq_true rfl) rfl d_RS_node_70 (fun En n9 ad9 w9 hx9 => hx9.elim) (fun v n9 ad9 w9 hp => ?_)
            obtain ⟨rfl, rfl, z, rfl, S', hz, hCT', hfr⟩ := hp
            obtain ⟨hT', hz1, hz2, hz3⟩ := mkT_pos hT hsh hz
            have hN' := hT'.1
            have hw0 := (hfr 0 (by omega)).trans hw0
            show XW _ _ _ _ _ _ 73 _ (_ :: _)
            refine xr_callS C (m_RS_needMade hLt (x := z) (by omega)) xm_RS_61 x2_RS_needMade (by decide) (by decide) (Nat.le_of_ble_eq_true rfl) rfl d_RS_node_73 (fun En n9 ad9 w9 hx9 => by
                    obtain ⟨rfl, rfl, rfl, rfl, hq⟩ := hx9
                    exact xx_out C E ⟨rfl, rfl, Or.inr (Or.inr ⟨rfl, by omega, by omega, S', z, hz, hq, by have := mkT_neg hz hq; subst this; exact hCT', hfr⟩)⟩ (by decide) (by decide)) (fun v n9 ad9 w9 hp => ?_)
            obtain ⟨rfl, rfl, z9, rfl, rfl, rfl, hz0⟩ := hp
            show XW _ _ _ _ _ _ 76 _ (_ :: _)
            exact xr_iret C E ⟨rfl, rfl, _, rfl, by omega, by omega, S', hz, hz0, hT', hCT', hfr⟩ (by decide) (by decide) d_RS_node_76
          · skip
            exact xr_throw C E hLt (cls := "java/lang/IllegalArgumentException") (text := "no such head, or a part too many") (names := ["java/lang/RuntimeException", "java/lang/Exception"]) rfl (by decide +kernel) (by decide +kernel) xk_RS_50 xi_IA (by decide +kernel) xat_IA (by decide +kernel) d_RS_node_53 d_RS_node_56 d_RS_node_57 d_RS_node_59 d_RS_node_62 (by decide) (by decide) ⟨rfl, rfl, Or.inr (Or.inl ⟨rfl, by omega, by omega, rfl⟩)⟩ (by decide) (by decide)
    · skip
      refine xr_aload_n C 0 d_RS_node_28 rfl rfl ?_
      refine xr_iload_n C 3 d_RS_node_29 rfl rfl ?_
      refine xr_callV (k9 := 0) C (m_RS_needTree hLt hw0 hw1 (by omega) (x := y) (by omega)) xm_RS_67 x2_RS_needTree hw0 (by decide) rfl (by decide) (by decide) (Nat.le_of_ble_eq_true rfl) rfl d_RS_node_30 (fun En n9 ad9 w9 hx9 => by
              obtain ⟨rfl, rfl, rfl, rfl, hq⟩ := hx9
              exact xx_out C E ⟨rfl, rfl, Or.inl ⟨rfl, by omega, rfl⟩⟩ (by decide) (by decide)) (fun v n9 ad9 w9 hp => ?_)
      obtain ⟨rfl, rfl, rfl, rfl, hq0b, hq1b⟩ := hp
      refine xr_iload_n C 1 d_RS_node_33 rfl rfl ?_
      refine xz_if_lt (tgt := 53) C d_RS_node_34 (by decide) (by omega) (fun c34 => ?_) (fun c34 => ?_)
      · skip
        exact xr_throw C E hLt (cls := "java/lang/IllegalArgumentException") (text := "no such head, or a part too many") (names := ["java/lang/RuntimeException", "java/lang/Exception"]) rfl (by decide +kernel) (by decide +kernel) xk_RS_50 xi_IA (by decide +kernel) xat_IA (by decide +kernel) d_RS_node_53 d_RS_node_56 d_RS_node_57 d_RS_node_59 d_RS_node_62 (by decide) (by decide) ⟨rfl, rfl, Or.inr (Or.inl ⟨rfl, by omega, by omega, rfl⟩)⟩ (by decide) (by decide)
      · skip
        refine xr_iload_n C 1 d_RS_node_37 rfl rfl ?_
        refine xr_bipush C d_RS_node_38 (by decide) ?_
        refine xz_icmp_ge (tgt := 53) C d_RS_node_40 (by decide) (by omega) (by omega) (fun c40 => ?_) (fun c40 => ?_)
        · skip
          exact xr_throw C E hLt (cls := "java/lang/IllegalArgumentException") (text := "no such head, or a part too many") (names := ["java/lang/RuntimeException", "java/lang/Exception"]) rfl (by decide +kernel) (by decide +kernel) xk_RS_50 xi_IA (by decide +kernel) xat_IA (by decide +kernel) d_RS_node_53 d_RS_node_56 d_RS_node_57 d_RS_node_59 d_RS_node_62 (by decide) (by decide) ⟨rfl, rfl, Or.inr (Or.inl ⟨rfl, by omega, by omega, rfl⟩)⟩ (by decide) (by decide)
        · skip
          refine xr_iload C d_RS_node_43 rfl ?_
          refine xz_if_eq (tgt := 63) C d_RS_node_45 (by decide) (by omega) (fun c45 => by exfalso; omega) (fun c45 => ?_)
          refine xr_iload_n C 3 d_RS_node_48 rfl rfl ?_
          refine xr_iconst C d_RS_node_49 ?_
          refine xz_icmp_eq (tgt := 63) C d_RS_node_50 (by decide) (by omega) (by omega) (fun c50 => ?_) (fun c50 => ?_)
          · skip
            refine xr_aload_n C 0 d_RS_node_63 rfl rfl ?_
            refine xr_get (k := 0) C xg_RS_10 hw0 (by decide) rfl d_RS_node_64 ?_
            refine xr_iload_n C 1 d_RS_node_67 rfl rfl ?_
            refine xr_eqz (y := um h) (by unfold um; rw [if_neg (by omega), if_neg (by omega)]) ?_
            have hsh : shp h x y (sN S) := by unfold shp; omega
            refine xr_iload_n C 2 d_RS_node_68 rfl rfl ?_
            refine xr_iload_n C 3 d_RS_node_69 rfl rfl ?_
            refine xr_callV (k9 := 1) C (m_Tr_numberOf (s := h) (a := x) (b := y) hCT hT hsh) xm_RS_57 x2_Tr_numberOf hw1 (by decide) rfl (by decide) (by decide) (Nat.le_of_ble_eq_true rfl) rfl d_RS_node_70 (fun En n9 ad9 w9 hx9 => hx9.elim) (fun v n9 ad9 w9 hp => ?_)
            obtain ⟨rfl, rfl, z, rfl, S', hz, hCT', hfr⟩ := hp
            obtain ⟨hT', hz1, hz2, hz3⟩ := mkT_pos hT hsh hz
            have hN' := hT'.1
            have hw0 := (hfr 0 (by omega)).trans hw0
            show XW _ _ _ _ _ _ 73 _ (_ :: _)
            refine xr_callS C (m_RS_needMade hLt (x := z) (by omega)) xm_RS_61 x2_RS_needMade (by decide) (by decide) (Nat.le_of_ble_eq_true rfl) rfl d_RS_node_73 (fun En n9 ad9 w9 hx9 => by
                    obtain ⟨rfl, rfl, rfl, rfl, hq⟩ := hx9
                    exact xx_out C E ⟨rfl, rfl, Or.inr (Or.inr ⟨rfl, by omega, by omega, S', z, hz, hq, by have := mkT_neg hz hq; subst this; exact hCT', hfr⟩)⟩ (by decide) (by decide)) (fun v n9 ad9 w9 hp => ?_)
            obtain ⟨rfl, rfl, z9, rfl, rfl, rfl, hz0⟩ := hp
            show XW _ _ _ _ _ _ 76 _ (_ :: _)
            exact xr_iret C E ⟨rfl, rfl, _, rfl, by omega, by omega, S', hz, hz0, hT', hCT', hfr⟩ (by decide) (by decide) d_RS_node_76
          · skip
            exact xr_throw C E hLt (cls := "java/lang/IllegalArgumentException") (text := "no such head, or a part too many") (names := ["java/lang/RuntimeException", "java/lang/Exception"]) rfl (by decide +kernel) (by decide +kernel) xk_RS_50 xi_IA (by decide +kernel) xat_IA (by decide +kernel) d_RS_node_53 d_RS_node_56 d_RS_node_57 d_RS_node_59 d_RS_node_62 (by decide) (by decide) ⟨rfl, rfl, Or.inr (Or.inl ⟨rfl, by omega, by omega, rfl⟩)⟩ (by decide) (by decide)
set_option maxHeartbeats 4000000 in
set_option maxRecDepth 100000 in
theorem m_RS_row {L : Launch} {D : va_G} {cA : Nat → ClassId} {base : Nat} {ad : Nat → Nat} {w : Nat → va_E} (hLt : L.stackTraces = false) {kp sq : Nat} {ls : Int} {se : Bool} (hw0 : w 0 = rsO ad kp sq ls se) {sz : Int} {f : Nat → Int} (hkp : kp = 25 ∨ kp = 27) (hwkp : w kp = roO ad kp sz) (hwkp1 : w (kp + 1) = xIA (cA 0) 800 f) (hsz : 0 ≤ sz ∧ sz ≤ 200) {x : Int} (hx : -2147483648 ≤ x ∧ x < 2147483648) {y : Int} (hy : -2147483648 ≤ y ∧ y < 2147483648) : XM L D cA base y_RS_row c_RS_row 3 (some .int) (xrm 9 1 6) [.ref (ad 0), .int (zI x), .int (zI y)] 56 ad w (xRet 56 ad (fun z w' => w = w' ∧ z = f (x * 4 + y).toNat ∧ (0 ≤ x ∧ x < sz) ∧ (0 ≤ y ∧ y < 4))) (xThr 56 ad (fun E w' => w = w' ∧ ((E = "java/lang/IndexOutOfBoundsException" ∧ ¬ (0 ≤ x ∧ x < sz)) ∨ (E = "java/lang/IllegalArgumentException" ∧ (0 ≤ x ∧ x < sz) ∧ ¬ (0 ≤ y ∧ y < 4))))) := by
  refine xm_of (by decide +kernel) (by simp [Value.category]) (Nat.le_of_ble_eq_true rfl) (fun G C E _ => ?_)
  refine xr_iload_n C 1 d_RS_row_0 rfl rfl ?_
  refine xz_if_lt (tgt := 15) C d_RS_row_1 (by decide) (by omega) (fun c1 => ?_) (fun c1 => ?_)
  · skip
    exact xr_throw C E hLt (cls := "java/lang/IndexOutOfBoundsException") (text := "no such row") (names := ["java/lang/RuntimeException", "java/lang/Exception"]) rfl (by decide +kernel) (by decide +kernel) xk_RS_128 xi_IO (by decide +kernel) xat_IO (by decide +kernel) d_RS_row_15 d_RS_row_18 d_RS_row_19 d_RS_row_21 d_RS_row_24 (by decide) (by decide) ⟨rfl, rfl, rfl, Or.inl ⟨rfl, by omega⟩⟩ (by decide) (by decide)
  · skip
    refine xr_iload_n C 1 d_RS_row_4 rfl rfl ?_
    refine xr_aload_n C 0 d_RS_row_5 rfl rfl ?_
    refine xr_get (k := 0) C xg_RS_35 hw0 (by decide) rfl d_RS_row_6 ?_
    refine xr_get (k := kp) C xg_RS_127 hwkp (by omega) rfl d_RS_row_9 ?_
    refine xz_icmp_lt (tgt := 25) C d_RS_row_12 (by decide) (by omega) (by omega) (fun c12 => ?_) (fun c12 => ?_)
    · skip
      refine xr_iload_n C 2 d_RS_row_25 rfl rfl ?_
      refine xz_if_lt (tgt := 34) C d_RS_row_26 (by decide) (by omega) (fun c26 => ?_) (fun c26 => ?_)
      · skip
        exact xr_throw C E hLt (cls := "java/lang/IllegalArgumentException") (text := "a row has no such cell") (names := ["java/lang/RuntimeException", "java/lang/Exception"]) rfl (by decide +kernel) (by decide +kernel) xk_RS_50 xi_IA (by decide +kernel) xat_IA (by decide +kernel) d_RS_row_34 d_RS_row_37 d_RS_row_38 d_RS_row_40 d_RS_row_43 (by decide) (by decide) ⟨rfl, rfl, rfl, Or.inr ⟨rfl, by omega, by omega⟩⟩ (by decide) (by decide)
      · skip
        refine xr_iload_n C 2 d_RS_row_29 rfl rfl ?_
        refine xr_iconst C d_RS_row_30 ?_
        refine xz_icmp_lt (tgt := 44) C d_RS_row_31 (by decide) (by omega) (by omega) (fun c31 => ?_) (fun c31 => ?_)
        · skip
          refine xr_aload_n C 0 d_RS_row_44 rfl rfl ?_
          refine xr_get (k := 0) C xg_RS_35 hw0 (by decide) rfl d_RS_row_45 ?_
          refine xr_iload_n C 1 d_RS_row_48 rfl rfl ?_
          refine xr_iload_n C 2 d_RS_row_49 rfl rfl ?_
          refine xr_callV (k9 := kp) C (m_Ro_cell (k := kp) (N := 0) (by omega) hwkp hwkp1 (x := x) (y := y) (by omega) (by omega)) xm_RS_135 x2_Ro_cell hwkp (by omega) rfl (by decide) (by decide) (Nat.le_of_ble_eq_true rfl) rfl d_RS_row_50 (fun En n9 ad9 w9 hx9 => hx9.elim) (fun v n9 ad9 w9 hp => ?_)
          obtain ⟨rfl, rfl, rfl, rfl⟩ := hp
          show XW _ _ _ _ _ _ 53 _ (_ :: _)
          exact xr_iret C E ⟨rfl, rfl, _, rfl, rfl, rfl, by omega, by omega⟩ (by decide) (by decide) d_RS_row_53
        · skip
          exact xr_throw C E hLt (cls := "java/lang/IllegalArgumentException") (text := "a row has no such cell") (names := ["java/lang/RuntimeException", "java/lang/Exception"]) rfl (by decide +kernel) (by decide +kernel) xk_RS_50 xi_IA (by decide +kernel) xat_IA (by decide +kernel) d_RS_row_34 d_RS_row_37 d_RS_row_38 d_RS_row_40 d_RS_row_43 (by decide) (by decide) ⟨rfl, rfl, rfl, Or.inr ⟨rfl, by omega, by omega⟩⟩ (by decide) (by decide)
    · skip
      exact xr_throw C E hLt (cls := "java/lang/IndexOutOfBoundsException") (text := "no such row") (names := ["java/lang/RuntimeException", "java/lang/Exception"]) rfl (by decide +kernel) (by decide +kernel) xk_RS_128 xi_IO (by decide +kernel) xat_IO (by decide +kernel) d_RS_row_15 d_RS_row_18 d_RS_row_19 d_RS_row_21 d_RS_row_24 (by decide) (by decide) ⟨rfl, rfl, rfl, Or.inl ⟨rfl, by omega⟩⟩ (by decide) (by decide)
/-- the conditions of the rules of the first k rows, as a mask -/
def domI (f co : Nat → Int) : Nat → Int32
  | 0 => zI 0
  | k + 1 => if co (f (k * 4)).toNat = -1 then domI f co k else domI f co k ||| (zI 1 <<< (zI (co (f (k * 4)).toNat) &&& 31))
set_option maxHeartbeats 4000000 in
set_option maxRecDepth 100000 in
theorem m_RS_domain {L : Launch} {D : va_G} {cA : Nat → ClassId} {base : Nat} {ad : Nat → Nat} {w : Nat → va_E} {kp sq : Nat} {ls : Int} {se : Bool} (hw0 : w 0 = rsO ad kp sq ls se) {sz : Int} {f : Nat → Int} (hkp : kp = 25 ∨ kp = 27) (hwkp : w kp = roO ad kp sz) (hwkp1 : w (kp + 1) = xIA (cA 0) 800 f) (hsz : 0 ≤ sz ∧ sz ≤ 200) {r : Int} {co : Nat → Int} (hw12 : w 12 = ruO ad r) (hw15 : w 15 = xIA (cA 0) 16 co) (hco : ∀ j, -1 ≤ co j ∧ co j < 10) (hf : ∀ i : Nat, (i : Int) < sz → 0 ≤ f (i * 4) ∧ f (i * 4) < 16) : XM L D cA base y_RS_domain c_RS_domain 4 (some .int) (xrm 1 0 0) [.ref (ad 0)] 56 ad w (xPure 56 ad w (.int (domI f co sz.toNat))) xF := by
  refine xm_of (by decide +kernel) (by simp [Value.category]) (Nat.le_of_ble_eq_true rfl) (fun G C E _ => ?_)
  have lp : ∀ (k i : Nat) (lv : Nat → Option Value), sz + 1 ≤ (i : Int) + k → (i : Int) ≤ sz → lv 0 = some (.ref (ad 0)) → lv 1 = some (.int (domI f co i)) → lv 2 = some (.int (zI (i : Int))) → XW G 56 ad w 0 0 4 lv [] := by
    intro k
    induction k with
    | zero => intro i lv h1 h2; exact absurd h1 (by omega)
    | succ k ih =>
      intro i lv h1 h2 hl0 hl1 hl2
      refine xr_iload_n C 2 d_RS_domain_4 rfl hl2 ?_
      refine xr_aload_n C 0 d_RS_domain_5 rfl hl0 ?_
      refine xr_get (k := 0) C xg_RS_35 hw0 (by decide) rfl d_RS_domain_6 ?_
      refine xr_get (k := kp) C xg_RS_127 hwkp (by omega) rfl d_RS_domain_9 ?_
      refine xz_icmp_ge (tgt := 50) C d_RS_domain_12 (by decide) (by omega) (by omega) (fun c12 => ?_) (fun c12 => ?_)
      · skip
        refine xr_iload_n C 1 d_RS_domain_50 rfl hl1 ?_
        have hi9 : (i : Int) = sz := by omega
        exact xr_iret C E ⟨rfl, rfl, rfl, by rw [show sz.toNat = i by omega]⟩ (by decide) (by decide) d_RS_domain_51
      · skip
        refine xr_aload_n C 0 d_RS_domain_15 rfl hl0 ?_
        refine xr_get (k := 0) C xg_RS_19 hw0 (by decide) rfl d_RS_domain_16 ?_
        refine xr_get (k := 12) C xg_RS_138 hw12 (by decide) rfl d_RS_domain_19 ?_
        refine xr_aload_n C 0 d_RS_domain_22 rfl hl0 ?_
        refine xr_get (k := 0) C xg_RS_35 hw0 (by decide) rfl d_RS_domain_23 ?_
        refine xr_iload_n C 2 d_RS_domain_26 rfl hl2 ?_
        refine xr_iconst C d_RS_domain_27 ?_
        refine xr_callV (k9 := kp) C (m_Ro_cell (k := kp) (N := 0) (by omega) hwkp hwkp1 (x := (i : Int)) (y := 0) (by omega) (by omega)) xm_RS_135 x2_Ro_cell hwkp (by omega) rfl (by decide) (by decide) (Nat.le_of_ble_eq_true rfl) rfl d_RS_domain_28 (fun En n9 ad9 w9 hx9 => hx9.elim) (fun v n9 ad9 w9 hp => ?_)
        obtain ⟨rfl, rfl, rfl, rfl⟩ := hp
        show XW _ _ _ _ _ _ 31 _ (_ :: _)
        refine xr_eqz (y := f (i * 4)) (by rw [show ((i : Int) * 4 + 0).toNat = i * 4 by omega]) ?_
        have hfi := hf i (by omega)
        have hcc := hco (f (i * 4)).toNat
        refine xj_iald (k := 15) C ((f (i * 4)).toNat) (by omega) hw15 (by decide) (by omega) (by decide) d_RS_domain_31 ?_
        refine xr_istore_n C 3 d_RS_domain_32 rfl (by decide) ?_
        refine xr_iload_n C 3 d_RS_domain_33 rfl rfl ?_
        refine xr_iconst C d_RS_domain_34 ?_
        refine xz_icmp_eq (tgt := 44) C d_RS_domain_35 (by decide) (by omega) (by omega) (fun c35 => ?_) (fun c35 => ?_)
        · skip
          refine xr_iinc C d_RS_domain_44 (by decide) hl2 ?_
          refine xr_goto (tgt := 4) C d_RS_domain_47 (by decide) ?_
          exact ih (i + 1) _ (by omega) (by omega) hl0 (by show _ = some (Value.int (domI f co (i + 1))); simp only [domI]; first | (rw [if_pos (by omega)]; exact hl1) | (rw [if_neg (by omega)]; rfl)) rfl
        · skip
          refine xr_iload_n C 1 d_RS_domain_38 rfl hl1 ?_
          refine xr_iconst C d_RS_domain_39 ?_
          refine xr_iload_n C 3 d_RS_domain_40 rfl rfl ?_
          refine xr_ishl C d_RS_domain_41 ?_
          refine xr_ior C d_RS_domain_42 ?_
          refine xr_istore_n C 1 d_RS_domain_43 rfl (by decide) ?_
          refine xr_iinc C d_RS_domain_44 (by decide) hl2 ?_
          refine xr_goto (tgt := 4) C d_RS_domain_47 (by decide) ?_
          exact ih (i + 1) _ (by omega) (by omega) hl0 (by show _ = some (Value.int (domI f co (i + 1))); simp only [domI]; first | (rw [if_pos (by omega)]; exact hl1) | (rw [if_neg (by omega)]; rfl)) rfl
  refine xr_iconst C d_RS_domain_0 ?_
  refine xr_istore_n C 1 d_RS_domain_1 rfl (by decide) ?_
  refine xr_iconst C d_RS_domain_2 ?_
  refine xr_istore_n C 2 d_RS_domain_3 rfl (by decide) ?_
  exact lp (sz.toNat + 1) 0 _ (by omega) (by omega) rfl rfl rfl
set_option maxHeartbeats 4000000 in
set_option maxRecDepth 100000 in
theorem m_Ro_add_25 {L : Launch} {D : va_G} {cA : Nat → ClassId} {base : Nat} {ad : Nat → Nat} {w : Nat → va_E} {n : Nat} {f : Nat → Int} (hn : n ≤ 200) (hw25 : w 25 = roO ad 25 (n : Int)) (hw26 : w 26 = xIA (cA 0) 800 f) {x y u v : Int} : XM L D cA base y_Ro_add c_Ro_add 6 none (xrm 0 0 0) [.ref (ad 25), .int (zI x), .int (zI y), .int (zI u), .int (zI v)] 56 ad w (xVoid 56 ad (fun w' => w' = if n < 200 then va_up (va_up w 26 (xIA (cA 0) 800 (va_up (va_up (va_up (va_up f (n * 4) x) (n * 4 + 1) y) (n * 4 + 2) u) (n * 4 + 3) v))) 25 (roO ad 25 ((n : Int) + 1)) else w)) xF := by
  refine xm_of (by decide +kernel) (by simp [Value.category]) (Nat.le_of_ble_eq_true rfl) (fun G C E _ => ?_)
  refine xr_aload_n C 0 d_Ro_add_0 rfl rfl ?_
  refine xr_get (k := 25) C xg_Ro_15 hw25 (by decide) rfl d_Ro_add_1 ?_
  refine xr_sipush C d_Ro_add_4 (by decide) ?_
  refine xz_icmp_lt (tgt := 11) C d_Ro_add_7 (by decide) (by omega) (by omega) (fun c7 => ?_) (fun c7 => ?_)
  · skip
    refine xr_aload_n C 0 d_Ro_add_11 rfl rfl ?_
    refine xr_get (k := 25) C xg_Ro_15 hw25 (by decide) rfl d_Ro_add_12 ?_
    refine xr_iconst C d_Ro_add_15 ?_
    refine xz_imul C d_Ro_add_16 ?_
    refine xr_istore C d_Ro_add_17 (by decide) ?_
    refine xr_aload_n C 0 d_Ro_add_19 rfl rfl ?_
    refine xr_get (k := 25) C xg_Ro_9 hw25 (by decide) rfl d_Ro_add_20 ?_
    refine xr_iload C d_Ro_add_23 rfl ?_
    refine xr_iload_n C 1 d_Ro_add_25 rfl rfl ?_
    refine xj_iast (k := 26) C (n * 4) (by omega) hw26 (by decide) (by omega) (by decide) d_Ro_add_26 ?_
    refine xr_aload_n C 0 d_Ro_add_27 rfl rfl ?_
    refine xr_get (k := 25) C xg_Ro_9 hw25 (by decide) rfl d_Ro_add_28 ?_
    refine xr_iload C d_Ro_add_31 rfl ?_
    refine xr_iconst C d_Ro_add_33 ?_
    refine xz_iadd C d_Ro_add_34 ?_
    refine xr_iload_n C 2 d_Ro_add_35 rfl rfl ?_
    refine xj_iast (k := 26) C (n * 4 + 1) (by omega) rfl (by decide) (by omega) (by decide) d_Ro_add_36 ?_
    refine xr_aload_n C 0 d_Ro_add_37 rfl rfl ?_
    refine xr_get (k := 25) C xg_Ro_9 hw25 (by decide) rfl d_Ro_add_38 ?_
    refine xr_iload C d_Ro_add_41 rfl ?_
    refine xr_iconst C d_Ro_add_43 ?_
    refine xz_iadd C d_Ro_add_44 ?_
    refine xr_iload_n C 3 d_Ro_add_45 rfl rfl ?_
    refine xj_iast (k := 26) C (n * 4 + 2) (by omega) rfl (by decide) (by omega) (by decide) d_Ro_add_46 ?_
    refine xr_aload_n C 0 d_Ro_add_47 rfl rfl ?_
    refine xr_get (k := 25) C xg_Ro_9 hw25 (by decide) rfl d_Ro_add_48 ?_
    refine xr_iload C d_Ro_add_51 rfl ?_
    refine xr_iconst C d_Ro_add_53 ?_
    refine xz_iadd C d_Ro_add_54 ?_
    refine xr_iload C d_Ro_add_55 rfl ?_
    refine xj_iast (k := 26) C (n * 4 + 3) (by omega) rfl (by decide) (by omega) (by decide) d_Ro_add_57 ?_
    refine xr_aload_n C 0 d_Ro_add_58 rfl rfl ?_
    refine xr_dup C rfl d_Ro_add_59 ?_
    refine xr_get (k := 25) C xg_Ro_15 hw25 (by decide) rfl d_Ro_add_60 ?_
    refine xr_iconst C d_Ro_add_63 ?_
    refine xz_iadd C d_Ro_add_64 ?_
    refine xr_put (k := 25) C xf_Ro_15 hw25 (by decide) rfl rfl (Nat.le_of_ble_eq_true rfl) d_Ro_add_65 ?_
    exact xr_vret C E ⟨rfl, rfl, rfl, by rw [if_pos (by omega), bx_uu, bx_uu, bx_uu]; rfl⟩ (by decide) (by decide) d_Ro_add_68
  · skip
    exact xr_vret C E ⟨rfl, rfl, rfl, by rw [if_neg (by omega)]⟩ (by decide) (by decide) d_Ro_add_10
set_option maxHeartbeats 4000000 in
set_option maxRecDepth 100000 in
theorem m_Ro_add_27 {L : Launch} {D : va_G} {cA : Nat → ClassId} {base : Nat} {ad : Nat → Nat} {w : Nat → va_E} {n : Nat} {f : Nat → Int} (hn : n ≤ 200) (hw27 : w 27 = roO ad 27 (n : Int)) (hw28 : w 28 = xIA (cA 0) 800 f) {x y u v : Int} : XM L D cA base y_Ro_add c_Ro_add 6 none (xrm 0 0 0) [.ref (ad 27), .int (zI x), .int (zI y), .int (zI u), .int (zI v)] 56 ad w (xVoid 56 ad (fun w' => w' = if n < 200 then va_up (va_up w 28 (xIA (cA 0) 800 (va_up (va_up (va_up (va_up f (n * 4) x) (n * 4 + 1) y) (n * 4 + 2) u) (n * 4 + 3) v))) 27 (roO ad 27 ((n : Int) + 1)) else w)) xF := by
  refine xm_of (by decide +kernel) (by simp [Value.category]) (Nat.le_of_ble_eq_true rfl) (fun G C E _ => ?_)
  refine xr_aload_n C 0 d_Ro_add_0 rfl rfl ?_
  refine xr_get (k := 27) C xg_Ro_15 hw27 (by decide) rfl d_Ro_add_1 ?_
  refine xr_sipush C d_Ro_add_4 (by decide) ?_
  refine xz_icmp_lt (tgt := 11) C d_Ro_add_7 (by decide) (by omega) (by omega) (fun c7 => ?_) (fun c7 => ?_)
  · skip
    refine xr_aload_n C 0 d_Ro_add_11 rfl rfl ?_
    refine xr_get (k := 27) C xg_Ro_15 hw27 (by decide) rfl d_Ro_add_12 ?_
    refine xr_iconst C d_Ro_add_15 ?_
    refine xz_imul C d_Ro_add_16 ?_
    refine xr_istore C d_Ro_add_17 (by decide) ?_
    refine xr_aload_n C 0 d_Ro_add_19 rfl rfl ?_
    refine xr_get (k := 27) C xg_Ro_9 hw27 (by decide) rfl d_Ro_add_20 ?_
    refine xr_iload C d_Ro_add_23 rfl ?_
    refine xr_iload_n C 1 d_Ro_add_25 rfl rfl ?_
    refine xj_iast (k := 28) C (n * 4) (by omega) hw28 (by decide) (by omega) (by decide) d_Ro_add_26 ?_
    refine xr_aload_n C 0 d_Ro_add_27 rfl rfl ?_
    refine xr_get (k := 27) C xg_Ro_9 hw27 (by decide) rfl d_Ro_add_28 ?_
    refine xr_iload C d_Ro_add_31 rfl ?_
    refine xr_iconst C d_Ro_add_33 ?_
    refine xz_iadd C d_Ro_add_34 ?_
    refine xr_iload_n C 2 d_Ro_add_35 rfl rfl ?_
    refine xj_iast (k := 28) C (n * 4 + 1) (by omega) rfl (by decide) (by omega) (by decide) d_Ro_add_36 ?_
    refine xr_aload_n C 0 d_Ro_add_37 rfl rfl ?_
    refine xr_get (k := 27) C xg_Ro_9 hw27 (by decide) rfl d_Ro_add_38 ?_
    refine xr_iload C d_Ro_add_41 rfl ?_
    refine xr_iconst C d_Ro_add_43 ?_
    refine xz_iadd C d_Ro_add_44 ?_
    refine xr_iload_n C 3 d_Ro_add_45 rfl rfl ?_
    refine xj_iast (k := 28) C (n * 4 + 2) (by omega) rfl (by decide) (by omega) (by decide) d_Ro_add_46 ?_
    refine xr_aload_n C 0 d_Ro_add_47 rfl rfl ?_
    refine xr_get (k := 27) C xg_Ro_9 hw27 (by decide) rfl d_Ro_add_48 ?_
    refine xr_iload C d_Ro_add_51 rfl ?_
    refine xr_iconst C d_Ro_add_53 ?_
    refine xz_iadd C d_Ro_add_54 ?_
    refine xr_iload C d_Ro_add_55 rfl ?_
    refine xj_iast (k := 28) C (n * 4 + 3) (by omega) rfl (by decide) (by omega) (by decide) d_Ro_add_57 ?_
    refine xr_aload_n C 0 d_Ro_add_58 rfl rfl ?_
    refine xr_dup C rfl d_Ro_add_59 ?_
    refine xr_get (k := 27) C xg_Ro_15 hw27 (by decide) rfl d_Ro_add_60 ?_
    refine xr_iconst C d_Ro_add_63 ?_
    refine xz_iadd C d_Ro_add_64 ?_
    refine xr_put (k := 27) C xf_Ro_15 hw27 (by decide) rfl rfl (Nat.le_of_ble_eq_true rfl) d_Ro_add_65 ?_
    exact xr_vret C E ⟨rfl, rfl, rfl, by rw [if_pos (by omega), bx_uu, bx_uu, bx_uu]; rfl⟩ (by decide) (by decide) d_Ro_add_68
  · skip
    exact xr_vret C E ⟨rfl, rfl, rfl, by rw [if_neg (by omega)]⟩ (by decide) (by decide) d_Ro_add_10
set_option maxHeartbeats 4000000 in
set_option maxRecDepth 100000 in
theorem m_Ru_add {L : Launch} {D : va_G} {cA : Nat → ClassId} {base : Nat} {ad : Nat → Nat} {w : Nat → va_E} {n : Nat} {rl rr co le ch : Nat → Int} (hn : n ≤ 16) (hw12 : w 12 = ruO ad (n : Int)) (hw13 : w 13 = xIA (cA 0) 16 rl) (hw14 : w 14 = xIA (cA 0) 16 rr) (hw15 : w 15 = xIA (cA 0) 16 co) (hw16 : w 16 = xIA (cA 1) 16 le) (hw17 : w 17 = xIA (cA 1) 16 ch) {x y u : Int} {p : Bool} : XM L D cA base y_Ru_add c_Ru_add 6 (some .int) (xrm 0 0 0) [.ref (ad 12), .int (zI x), .int (zI y), .int (zI u), .int (zI (xb p))] 56 ad w (xRet 56 ad (fun z w' => (n < 16 ∧ z = (n : Int) ∧ w' = va_up (va_up (va_up (va_up (va_up (va_up w 12 (ruO ad ((n : Int) + 1))) 13 (xIA (cA 0) 16 (va_up rl n x))) 14 (xIA (cA 0) 16 (va_up rr n y))) 15 (xIA (cA 0) 16 (va_up co n u))) 16 (xIA (cA 1) 16 (va_up le n (xb p)))) 17 (xIA (cA 1) 16 (va_up ch n 1))) ∨ (¬ n < 16 ∧ z = -1 ∧ w' = w))) xF := by
  refine xm_of (by decide +kernel) (by simp [Value.category]) (Nat.le_of_ble_eq_true rfl) (fun G C E _ => ?_)
  refine xr_aload_n C 0 d_Ru_add_0 rfl rfl ?_
  refine xr_get (k := 12) C xg_Ru_31 hw12 (by decide) rfl d_Ru_add_1 ?_
  refine xr_bipush C d_Ru_add_4 (by decide) ?_
  refine xz_icmp_lt (tgt := 11) C d_Ru_add_6 (by decide) (by omega) (by omega) (fun c6 => ?_) (fun c6 => ?_)
  · skip
    refine xr_aload_n C 0 d_Ru_add_11 rfl rfl ?_
    refine xr_get (k := 12) C xg_Ru_31 hw12 (by decide) rfl d_Ru_add_12 ?_
    refine xr_istore C d_Ru_add_15 (by decide) ?_
    refine xr_aload_n C 0 d_Ru_add_17 rfl rfl ?_
    refine xr_dup C rfl d_Ru_add_18 ?_
    refine xr_get (k := 12) C xg_Ru_31 hw12 (by decide) rfl d_Ru_add_19 ?_
    refine xr_iconst C d_Ru_add_22 ?_
    refine xz_iadd C d_Ru_add_23 ?_
    refine xr_put (k := 12) C xf_Ru_31 hw12 (by decide) rfl rfl (Nat.le_of_ble_eq_true rfl) d_Ru_add_24 ?_
    refine xr_aload_n C 0 d_Ru_add_27 rfl rfl ?_
    refine xr_get (k := 12) C xg_Ru_9 rfl (by decide) rfl d_Ru_add_28 ?_
    refine xr_iload C d_Ru_add_31 rfl ?_
    refine xr_iload_n C 1 d_Ru_add_33 rfl rfl ?_
    refine xj_iast (k := 13) C (n) (by omega) hw13 (by decide) (by omega) (by decide) d_Ru_add_34 ?_
    refine xr_aload_n C 0 d_Ru_add_35 rfl rfl ?_
    refine xr_get (k := 12) C xg_Ru_15 rfl (by decide) rfl d_Ru_add_36 ?_
    refine xr_iload C d_Ru_add_39 rfl ?_
    refine xr_iload_n C 2 d_Ru_add_41 rfl rfl ?_
    refine xj_iast (k := 14) C (n) (by omega) hw14 (by decide) (by omega) (by decide) d_Ru_add_42 ?_
    refine xr_aload_n C 0 d_Ru_add_43 rfl rfl ?_
    refine xr_get (k := 12) C xg_Ru_18 rfl (by decide) rfl d_Ru_add_44 ?_
    refine xr_iload C d_Ru_add_47 rfl ?_
    refine xr_iload_n C 3 d_Ru_add_49 rfl rfl ?_
    refine xj_iast (k := 15) C (n) (by omega) hw15 (by decide) (by omega) (by decide) d_Ru_add_50 ?_
    refine xr_aload_n C 0 d_Ru_add_51 rfl rfl ?_
    refine xr_get (k := 12) C xg_Ru_21 rfl (by decide) rfl d_Ru_add_52 ?_
    refine xr_iload C d_Ru_add_55 rfl ?_
    refine xr_iload C d_Ru_add_57 rfl ?_
    refine xj_zast (k := 16) C (n) (by omega) hw16 (by decide) (by omega) (by decide) xb_01 d_Ru_add_59 ?_
    refine xr_aload_n C 0 d_Ru_add_60 rfl rfl ?_
    refine xr_get (k := 12) C xg_Ru_25 rfl (by decide) rfl d_Ru_add_61 ?_
    refine xr_iload C d_Ru_add_64 rfl ?_
    refine xr_iconst C d_Ru_add_66 ?_
    refine xj_zast (k := 17) C (n) (by omega) hw17 (by decide) (by omega) (by decide) (by omega) d_Ru_add_67 ?_
    refine xr_iload C d_Ru_add_68 rfl ?_
    exact xr_iret C E ⟨rfl, rfl, (n : Int), rfl, Or.inl ⟨by omega, rfl, rfl⟩⟩ (by decide) (by decide) d_Ru_add_70
  · skip
    refine xr_iconst C d_Ru_add_9 ?_
    exact xr_iret C E ⟨rfl, rfl, -1, rfl, Or.inr ⟨by omega, rfl, rfl⟩⟩ (by decide) (by decide) d_Ru_add_10
