theorem m_Rn_run {L : Launch} {D : va_G} {cA : Nat → ClassId} {base : Nat} {ad : Nat → Nat} {w : Nat → va_E} {S : xS} (hCT : CT ad cA w S) (hT : Tb S) (hS : RSC ad cA w) {n : Nat} {rl rr co le9 ch an : Nat → Int} (hn : n ≤ 16) (hw12 : w 12 = ruO ad (n : Int)) (hw13 : w 13 = xIA (cA 0) 16 rl) (hw14 : w 14 = xIA (cA 0) 16 rr) (hw15 : w 15 = xIA (cA 0) 16 co) (hw16 : w 16 = xIA (cA 1) 16 le9) (hw17 : w 17 = xIA (cA 1) 16 ch) (hw18 : w 18 = xIA (cA 0) 10 an) (hco : ∀ j, -1 ≤ co j ∧ co j < 10) (hch : ∀ j, ch j = 0 ∨ ch j = 1) (hle : ∀ j, le9 j = 0 ∨ le9 j = 1) (han : ∀ j, 0 ≤ an j ∧ an j ≤ 2) (hR : RG S n rl rr) {only : Bool} {most t : Nat} (hmo : most ≤ 1000) (ht : t < sN S) {sq : Nat} (hsq : sq = 25 ∨ sq = 27) {sz : Int} {f0 : Nat → Int} (hwsq : w sq = roO ad sq sz) (hwsq1 : w (sq + 1) = xIA (cA 0) 800 f0) : XM L D cA base y_Rn_run c_Rn_run 7 (some .int) (xrm 68 0 0) [.ref (ad 19), .int (zI (t : Int)), .int (zI (most : Int)), .int (zI (xb only)), .ref (ad sq)] 56 ad w (xRet 56 ad (fun z w' => ∃ (S' : xS) (acc : List (Nat × Nat × Nat × Nat)) (f : Nat → Int), (z, S', acc) = runS n rl rr (usS co ch an le9 only) most S t [] ∧ Tb S' ∧ xt S S' ∧ -1 ≤ z ∧ z < sN S' ∧ CT ad cA w' S' ∧ RSC ad cA w' ∧ (0 ≤ z → ∃ sp pz lz : Int, w' 19 = rnO ad sp pz lz (acc.length : Int) (decide (fnS S' (lowR S' n rl (usS co ch an le9 only)) z.toNat ≠ -1))) ∧ w' sq = roO ad sq ((min 200 acc.length : Nat) : Int) ∧ w' (sq + 1) = xIA (cA 0) 800 f ∧ RWS f acc ∧ (∀ k, (k < 1 ∨ 11 < k) → (k < 19 ∨ 24 < k) → k ≠ sq → k ≠ sq + 1 → w' k = w k))) xF := by
  rcases hsq with rfl | rfl
  · exact m_Rn_run_25 hCT hT hS hn hw12 hw13 hw14 hw15 hw16 hw17 hw18 hco hch hle han hR hmo ht hwsq hwsq1
  · exact m_Rn_run_27 hCT hT hS hn hw12 hw13 hw14 hw15 hw16 hw17 hw18 hco hch hle han hR hmo ht hwsq hwsq1
theorem rsc_fr {ad : Nat → Nat} {cA : Nat → ClassId} {w w' : Nat → va_E} (h : RSC ad cA w) (hf : ∀ k, 19 ≤ k → k ≤ 24 → w' k = w k) : RSC ad cA w' := by
  obtain ⟨⟨sp, pz, lz, md, mo, h19⟩, ⟨al, h20⟩, ⟨fo, h21⟩, ⟨β, h22, hβ⟩, ⟨ar, h23⟩, ⟨is, h24⟩⟩ := h
  exact ⟨⟨sp, pz, lz, md, mo, (hf 19 (by decide) (by decide)).trans h19⟩, ⟨al, (hf 20 (by decide) (by decide)).trans h20⟩, ⟨fo, (hf 21 (by decide) (by decide)).trans h21⟩, ⟨β, (hf 22 (by decide) (by decide)).trans h22, hβ⟩, ⟨ar, (hf 23 (by decide) (by decide)).trans h23⟩, ⟨is, (hf 24 (by decide) (by decide)).trans h24⟩⟩
set_option maxHeartbeats 4000000 in
set_option maxRecDepth 100000 in
theorem m_RS_rewrite {L : Launch} {D : va_G} {cA : Nat → ClassId} {base : Nat} {ad : Nat → Nat} {w : Nat → va_E} (hLt : L.stackTraces = false) {kp sq : Nat} {ls : Int} {se : Bool} (hw0 : w 0 = rsO ad kp sq ls se) (hsq : sq = 25 ∨ sq = 27) {sz : Int} {f0 : Nat → Int} (hwsq : w sq = roO ad sq sz) (hwsq1 : w (sq + 1) = xIA (cA 0) 800 f0) {S : xS} (hCT : CT ad cA w S) (hT : Tb S) (hS : RSC ad cA w) {n : Nat} {rl rr co le9 ch an : Nat → Int} (hn : n ≤ 16) (hw12 : w 12 = ruO ad (n : Int)) (hw13 : w 13 = xIA (cA 0) 16 rl) (hw14 : w 14 = xIA (cA 0) 16 rr) (hw15 : w 15 = xIA (cA 0) 16 co) (hw16 : w 16 = xIA (cA 1) 16 le9) (hw17 : w 17 = xIA (cA 1) 16 ch) (hw18 : w 18 = xIA (cA 0) 10 an) (hco : ∀ j, -1 ≤ co j ∧ co j < 10) (hch : ∀ j, ch j = 0 ∨ ch j = 1) (hle : ∀ j, le9 j = 0 ∨ le9 j = 1) (han : ∀ j, 0 ≤ an j ∧ an j ≤ 2) (hR : RG S n rl rr) {x : Int} (hx : -2147483648 ≤ x ∧ x < 2147483648) {y : Int} (hy : -2147483648 ≤ y ∧ y < 2147483648) : XM L D cA base y_RS_rewrite c_RS_rewrite 5 (some .int) (xrm 69 3 18) [.ref (ad 0), .int (zI x), .int (zI y)] 56 ad w (xRet 56 ad (fun z w' => (0 ≤ x ∧ x < (sN S : Int)) ∧ (sHo S x.toNat = 0 ∧ (0 ≤ y ∧ y ≤ 200)) ∧ ∃ (S' : xS) (acc : List (Nat × Nat × Nat × Nat)) (f : Nat → Int), (z, S', acc) = runS n rl rr (usS co ch an le9 false) y.toNat S x.toNat [] ∧ 0 ≤ z ∧ z < sN S' ∧ Tb S' ∧ xt S S' ∧ CT ad cA w' S' ∧ RSC ad cA w' ∧ w' 0 = rsO ad sq kp (acc.length : Int) (decide (fnS S' (lowR S' n rl (usS co ch an le9 false)) z.toNat ≠ -1)) ∧ w' sq = roO ad sq ((min 200 acc.length : Nat) : Int) ∧ w' (sq + 1) = xIA (cA 0) 800 f ∧ RWS f acc ∧ (∀ k, k ≠ 0 → (k < 1 ∨ 11 < k) → (k < 19 ∨ 24 < k) → k ≠ sq → k ≠ sq + 1 → w' k = w k))) (xThr 56 ad (fun E w' => (E = "java/lang/IndexOutOfBoundsException" ∧ ¬ (0 ≤ x ∧ x < (sN S : Int)) ∧ w = w') ∨ (E = "java/lang/IllegalArgumentException" ∧ (0 ≤ x ∧ x < (sN S : Int)) ∧ ¬ (sHo S x.toNat = 0 ∧ (0 ≤ y ∧ y ≤ 200)) ∧ w = w') ∨ (E = "java/lang/IllegalStateException" ∧ (0 ≤ x ∧ x < (sN S : Int)) ∧ (sHo S x.toNat = 0 ∧ (0 ≤ y ∧ y ≤ 200)) ∧ ∃ (S' : xS) (acc : List (Nat × Nat × Nat × Nat)), (-1, S', acc) = runS n rl rr (usS co ch an le9 false) y.toNat S x.toNat [] ∧ xt S S' ∧ Tb S' ∧ CT ad cA w' (cut S' (sN S)) ∧ RSC ad cA w' ∧ (∃ (sz : Int) (f : Nat → Int), w' sq = roO ad sq sz ∧ w' (sq + 1) = xIA (cA 0) 800 f) ∧ w' 0 = w 0 ∧ (∀ k, k ≠ 0 → (k < 1 ∨ 11 < k) → (k < 19 ∨ 24 < k) → k ≠ sq → k ≠ sq + 1 → w' k = w k)))) := by
  refine xm_of (by decide +kernel) (by simp [Value.category]) (Nat.le_of_ble_eq_true rfl) (fun G C E _ => ?_)
  obtain ⟨⟨sp, pz, lz, md, mo, hw19⟩, -⟩ := id hS
  have hN := hT.1
  obtain ⟨mk, fs, sn, wt, pl, dp, ho, hc, nw, od, hw1, hw2, hw3, hw4, hw5, hw6, hw7, hw8, hw9, hw10, hw11, hC⟩ := id hCT
  refine xr_aload_n C 0 d_RS_rewrite_0 rfl rfl ?_
  refine xr_iload_n C 1 d_RS_rewrite_1 rfl rfl ?_
  refine xr_callV (k9 := 0) C (m_RS_needTree hLt hw0 hw1 (by omega) (x := x) (by omega)) xm_RS_67 x2_RS_needTree hw0 (by decide) rfl (by decide) (by decide) (Nat.le_of_ble_eq_true rfl) rfl d_RS_rewrite_2 (fun En n9 ad9 w9 hx9 => by
        obtain ⟨rfl, rfl, rfl, rfl, hq⟩ := hx9
        exact xx_out C E ⟨rfl, rfl, Or.inl ⟨rfl, by omega, rfl⟩⟩ (by decide) (by decide)) (fun v n9 ad9 w9 hp => ?_)
  obtain ⟨rfl, rfl, rfl, rfl, hq0, hq1⟩ := hp
  have mh := (hC.1 (x).toNat (by omega)).2.2.2.2.2.2
  refine xr_aload_n C 0 d_RS_rewrite_5 rfl rfl ?_
  refine xr_iload_n C 1 d_RS_rewrite_6 rfl rfl ?_
  refine xr_callV (k9 := 0) C (m_RS_needPlain hLt hw0 hw1 hw8 (fun j => (hC.2.2.1 j).2.2.2.2.2.2.1) (x := x) (by omega)) xm_RS_105 x2_RS_needPlain hw0 (by decide) rfl (by decide) (by decide) (Nat.le_of_ble_eq_true rfl) rfl d_RS_rewrite_7 (fun En n9 ad9 w9 hx9 => by
        obtain ⟨rfl, rfl, rfl, rfl, hq⟩ := hx9
        exact xx_out C E ⟨rfl, rfl, Or.inr (Or.inl ⟨rfl, by omega, by omega, rfl⟩)⟩ (by decide) (by decide)) (fun v n9 ad9 w9 hp => ?_)
  obtain ⟨rfl, rfl, rfl, rfl, hpl⟩ := hp
  refine xr_iload_n C 2 d_RS_rewrite_10 rfl rfl ?_
  refine xz_if_lt (tgt := 21) C d_RS_rewrite_11 (by decide) (by omega) (fun c11 => ?_) (fun c11 => ?_)
  · skip
    exact xr_throw C E hLt (cls := "java/lang/IllegalArgumentException") (text := "no such number of steps") (names := ["java/lang/RuntimeException", "java/lang/Exception"]) rfl (by decide +kernel) (by decide +kernel) xk_RS_50 xi_IA (by decide +kernel) xat_IA (by decide +kernel) d_RS_rewrite_21 d_RS_rewrite_24 d_RS_rewrite_25 d_RS_rewrite_27 d_RS_rewrite_30 (by decide) (by decide) ⟨rfl, rfl, Or.inr (Or.inl ⟨rfl, by omega, by omega, rfl⟩)⟩ (by decide) (by decide)
  · skip
    refine xr_iload_n C 2 d_RS_rewrite_14 rfl rfl ?_
    refine xr_sipush C d_RS_rewrite_15 (by decide) ?_
    refine xz_icmp_le (tgt := 31) C d_RS_rewrite_18 (by decide) (by omega) (by omega) (fun c18 => ?_) (fun c18 => ?_)
    · skip
      refine xr_aload_n C 0 d_RS_rewrite_31 rfl rfl ?_
      refine xr_get (k := 0) C xg_RS_10 hw0 (by decide) rfl d_RS_rewrite_32 ?_
      refine xr_get (k := 1) C xg_RS_110 hw1 (by decide) rfl d_RS_rewrite_35 ?_
      refine xr_istore_n C 3 d_RS_rewrite_38 rfl (by decide) ?_
      refine xr_aload_n C 0 d_RS_rewrite_39 rfl rfl ?_
      refine xr_aload_n C 0 d_RS_rewrite_40 rfl rfl ?_
      refine xr_get (k := 0) C xg_RS_28 hw0 (by decide) rfl d_RS_rewrite_41 ?_
      refine xr_iload_n C 1 d_RS_rewrite_44 rfl rfl ?_
      refine xr_eqz (y := ((x.toNat : Nat) : Int)) (by omega) ?_
      refine xr_iload_n C 2 d_RS_rewrite_45 rfl rfl ?_
      refine xr_eqz (y := ((y.toNat : Nat) : Int)) (by omega) ?_
      refine xr_iconst C d_RS_rewrite_46 ?_
      show XW _ _ _ _ _ _ _ _ (.int (zI (xb false)) :: _)
      refine xr_aload_n C 0 d_RS_rewrite_47 rfl rfl ?_
      refine xr_get (k := 0) C xg_RS_39 hw0 (by decide) rfl d_RS_rewrite_48 ?_
      refine xr_callV (k9 := 19) C (m_Rn_run hCT hT hS hn hw12 hw13 hw14 hw15 hw16 hw17 hw18 hco hch hle han hR (only := false) (most := y.toNat) (t := x.toNat) (by omega) (by omega) hsq hwsq hwsq1) xm_RS_113 x2_Rn_run hw19 (by decide) rfl (by decide) (by decide) (Nat.le_of_ble_eq_true rfl) rfl d_RS_rewrite_51 (fun En n9 ad9 w9 hx9 => hx9.elim) (fun v n9 ad9 w9 hp => ?_)
      obtain ⟨rfl, rfl, z1, rfl, S1, acc1, f1, er1, hT1, hx1, hz1, hzN1, hCT1, hS1, hmo1, hwsq, hwsq1, hRW1, hfr1⟩ := hp
      have hNN1 := hx1.1
      have hN1 := hT1.1
      have hw0 := (hfr1 0 (by omega) (by omega) (by omega) (by omega)).trans hw0
      have hw1 := ct_1 hCT1
      show XW _ _ _ _ _ _ 54 _ (_ :: _)
      refine xr_iload_n C 3 d_RS_rewrite_54 rfl rfl ?_
      refine xr_callV (k9 := 0) C (m_RS_needRun hLt hw0 hCT1 hT1 (n := sN S) (by omega) (x := z1) (by omega)) xm_RS_117 x2_RS_needRun hw0 (by decide) rfl (by decide) (by decide) (Nat.le_of_ble_eq_true rfl) rfl d_RS_rewrite_55 (fun En n9 ad9 w9 hx9 => by
            obtain ⟨rfl, rfl, rfl, hzn, hCTc, hfrc⟩ := hx9
            exact xx_out C E ⟨rfl, rfl, Or.inr (Or.inr ⟨rfl, by omega, by omega, S1, acc1, by rw [← er1, show z1 = -1 by omega], hx1, hT1, hCTc, rsc_fr hS1 (fun k a b => hfrc k (by omega)), ⟨_, f1, (hfrc _ (by omega)).trans hwsq, (hfrc _ (by omega)).trans hwsq1⟩, (hfrc 0 (by omega)).trans (hfr1 0 (by omega) (by omega) (by omega) (by omega)), fun k a b c d e => (hfrc k b).trans (hfr1 k b c d e)⟩)⟩ (by decide) (by decide)) (fun v n9 ad9 w9 hp => ?_)
      obtain ⟨rfl, rfl, zz1, rfl, rfl, hzz1, hz01⟩ := hp
      subst hzz1
      show XW _ _ _ _ _ _ 58 _ (_ :: _)
      refine xr_istore C d_RS_rewrite_58 (by decide) ?_
      refine xr_aload_n C 0 d_RS_rewrite_60 rfl rfl ?_
      obtain ⟨sp9, pz9, lz9, hw19⟩ := hmo1 hz01
      refine xr_callV (k9 := 0) C (m_RS_keepRun (se := se) (md := (acc1.length : Int)) hw0 hw19) xm_RS_121 x2_RS_keepRun hw0 (by decide) rfl (by decide) (by decide) (Nat.le_of_ble_eq_true rfl) rfl d_RS_rewrite_61 (fun En n9 ad9 w9 hx9 => hx9.elim) (fun v n9 ad9 w9 hp => ?_)
      obtain ⟨rfl, rfl, rfl, rfl⟩ := hp
      refine xr_aload_n C 0 d_RS_rewrite_64 rfl rfl ?_
      refine xr_aload_n C 0 d_RS_rewrite_65 rfl rfl ?_
      refine xr_get (k := 0) C xg_RS_28 rfl (by decide) rfl d_RS_rewrite_66 ?_
      refine xr_get (k := 19) C xg_RS_124 hw19 (by decide) rfl d_RS_rewrite_69 ?_
      refine xr_put (k := 0) C xf_RS_46 rfl (by decide) xb_nar xb_fit (Nat.le_of_ble_eq_true rfl) d_RS_rewrite_72 ?_
      refine xr_iload C d_RS_rewrite_75 rfl ?_
      exact xr_iret C E ⟨rfl, rfl, _, rfl, by omega, by omega, S1, acc1, f1, er1, hz01, hzN1, hT1, hx1, ct_fr hCT1 (fun k a b => (va_ne (by omega)).trans (va_ne (by omega))), rsc_fr hS1 (fun k a b => (va_ne (by omega)).trans (va_ne (by omega))), by rw [bx_uu]; rfl, (va_ne (by omega)).trans ((va_ne (by omega)).trans hwsq), (va_ne (by omega)).trans ((va_ne (by omega)).trans hwsq1), hRW1, fun k a b c d e => (va_ne a).trans ((va_ne a).trans (hfr1 k b c d e))⟩ (by decide) (by decide) d_RS_rewrite_77
    · skip
      exact xr_throw C E hLt (cls := "java/lang/IllegalArgumentException") (text := "no such number of steps") (names := ["java/lang/RuntimeException", "java/lang/Exception"]) rfl (by decide +kernel) (by decide +kernel) xk_RS_50 xi_IA (by decide +kernel) xat_IA (by decide +kernel) d_RS_rewrite_21 d_RS_rewrite_24 d_RS_rewrite_25 d_RS_rewrite_27 d_RS_rewrite_30 (by decide) (by decide) ⟨rfl, rfl, Or.inr (Or.inl ⟨rfl, by omega, by omega, rfl⟩)⟩ (by decide) (by decide)
set_option maxHeartbeats 4000000 in
set_option maxRecDepth 100000 in
theorem m_RS_normal {L : Launch} {D : va_G} {cA : Nat → ClassId} {base : Nat} {ad : Nat → Nat} {w : Nat → va_E} (hLt : L.stackTraces = false) {kp sq : Nat} {ls : Int} {se : Bool} (hw0 : w 0 = rsO ad kp sq ls se) (hsq : sq = 25 ∨ sq = 27) {sz : Int} {f0 : Nat → Int} (hwsq : w sq = roO ad sq sz) (hwsq1 : w (sq + 1) = xIA (cA 0) 800 f0) {S : xS} (hCT : CT ad cA w S) (hT : Tb S) (hS : RSC ad cA w) {n : Nat} {rl rr co le9 ch an : Nat → Int} (hn : n ≤ 16) (hw12 : w 12 = ruO ad (n : Int)) (hw13 : w 13 = xIA (cA 0) 16 rl) (hw14 : w 14 = xIA (cA 0) 16 rr) (hw15 : w 15 = xIA (cA 0) 16 co) (hw16 : w 16 = xIA (cA 1) 16 le9) (hw17 : w 17 = xIA (cA 1) 16 ch) (hw18 : w 18 = xIA (cA 0) 10 an) (hco : ∀ j, -1 ≤ co j ∧ co j < 10) (hch : ∀ j, ch j = 0 ∨ ch j = 1) (hle : ∀ j, le9 j = 0 ∨ le9 j = 1) (han : ∀ j, 0 ≤ an j ∧ an j ≤ 2) (hR : RG S n rl rr) {x : Int} (hx : -2147483648 ≤ x ∧ x < 2147483648) : XM L D cA base y_RS_normal c_RS_normal 4 (some .int) (xrm 69 3 18) [.ref (ad 0), .int (zI x)] 56 ad w (xRet 56 ad (fun z w' => (0 ≤ x ∧ x < (sN S : Int)) ∧ sHo S x.toNat = 0 ∧ ∃ (S' : xS) (acc : List (Nat × Nat × Nat × Nat)) (f : Nat → Int), (z, S', acc) = runS n rl rr (usS co ch an le9 true) 1000 S x.toNat [] ∧ 0 ≤ z ∧ z < sN S' ∧ Tb S' ∧ xt S S' ∧ CT ad cA w' S' ∧ RSC ad cA w' ∧ w' 0 = rsO ad sq kp (acc.length : Int) se ∧ w' sq = roO ad sq ((min 200 acc.length : Nat) : Int) ∧ w' (sq + 1) = xIA (cA 0) 800 f ∧ RWS f acc ∧ (∀ k, k ≠ 0 → (k < 1 ∨ 11 < k) → (k < 19 ∨ 24 < k) → k ≠ sq → k ≠ sq + 1 → w' k = w k))) (xThr 56 ad (fun E w' => (E = "java/lang/IndexOutOfBoundsException" ∧ ¬ (0 ≤ x ∧ x < (sN S : Int)) ∧ w = w') ∨ (E = "java/lang/IllegalArgumentException" ∧ (0 ≤ x ∧ x < (sN S : Int)) ∧ ¬ sHo S x.toNat = 0 ∧ w = w') ∨ (E = "java/lang/IllegalStateException" ∧ (0 ≤ x ∧ x < (sN S : Int)) ∧ sHo S x.toNat = 0 ∧ ∃ (S' : xS) (acc : List (Nat × Nat × Nat × Nat)), (-1, S', acc) = runS n rl rr (usS co ch an le9 true) 1000 S x.toNat [] ∧ xt S S' ∧ Tb S' ∧ CT ad cA w' (cut S' (sN S)) ∧ RSC ad cA w' ∧ (∃ (sz : Int) (f : Nat → Int), w' sq = roO ad sq sz ∧ w' (sq + 1) = xIA (cA 0) 800 f) ∧ w' 0 = w 0 ∧ (∀ k, k ≠ 0 → (k < 1 ∨ 11 < k) → (k < 19 ∨ 24 < k) → k ≠ sq → k ≠ sq + 1 → w' k = w k)))) := by
  refine xm_of (by decide +kernel) (by simp [Value.category]) (Nat.le_of_ble_eq_true rfl) (fun G C E _ => ?_)
  obtain ⟨⟨sp, pz, lz, md, mo, hw19⟩, -⟩ := id hS
  have hN := hT.1
  obtain ⟨mk, fs, sn, wt, pl, dp, ho, hc, nw, od, hw1, hw2, hw3, hw4, hw5, hw6, hw7, hw8, hw9, hw10, hw11, hC⟩ := id hCT
  refine xr_aload_n C 0 d_RS_normal_0 rfl rfl ?_
  refine xr_iload_n C 1 d_RS_normal_1 rfl rfl ?_
  refine xr_callV (k9 := 0) C (m_RS_needTree hLt hw0 hw1 (by omega) (x := x) (by omega)) xm_RS_67 x2_RS_needTree hw0 (by decide) rfl (by decide) (by decide) (Nat.le_of_ble_eq_true rfl) rfl d_RS_normal_2 (fun En n9 ad9 w9 hx9 => by
        obtain ⟨rfl, rfl, rfl, rfl, hq⟩ := hx9
        exact xx_out C E ⟨rfl, rfl, Or.inl ⟨rfl, by omega, rfl⟩⟩ (by decide) (by decide)) (fun v n9 ad9 w9 hp => ?_)
  obtain ⟨rfl, rfl, rfl, rfl, hq0, hq1⟩ := hp
  have mh := (hC.1 (x).toNat (by omega)).2.2.2.2.2.2
  refine xr_aload_n C 0 d_RS_normal_5 rfl rfl ?_
  refine xr_iload_n C 1 d_RS_normal_6 rfl rfl ?_
  refine xr_callV (k9 := 0) C (m_RS_needPlain hLt hw0 hw1 hw8 (fun j => (hC.2.2.1 j).2.2.2.2.2.2.1) (x := x) (by omega)) xm_RS_105 x2_RS_needPlain hw0 (by decide) rfl (by decide) (by decide) (Nat.le_of_ble_eq_true rfl) rfl d_RS_normal_7 (fun En n9 ad9 w9 hx9 => by
        obtain ⟨rfl, rfl, rfl, rfl, hq⟩ := hx9
        exact xx_out C E ⟨rfl, rfl, Or.inr (Or.inl ⟨rfl, by omega, by omega, rfl⟩)⟩ (by decide) (by decide)) (fun v n9 ad9 w9 hp => ?_)
  obtain ⟨rfl, rfl, rfl, rfl, hpl⟩ := hp
  refine xr_aload_n C 0 d_RS_normal_10 rfl rfl ?_
  refine xr_get (k := 0) C xg_RS_10 hw0 (by decide) rfl d_RS_normal_11 ?_
  refine xr_get (k := 1) C xg_RS_110 hw1 (by decide) rfl d_RS_normal_14 ?_
  refine xr_istore_n C 2 d_RS_normal_17 rfl (by decide) ?_
  refine xr_aload_n C 0 d_RS_normal_18 rfl rfl ?_
  refine xr_aload_n C 0 d_RS_normal_19 rfl rfl ?_
  refine xr_get (k := 0) C xg_RS_28 hw0 (by decide) rfl d_RS_normal_20 ?_
  refine xr_iload_n C 1 d_RS_normal_23 rfl rfl ?_
  refine xr_eqz (y := ((x.toNat : Nat) : Int)) (by omega) ?_
  refine xr_sipush C d_RS_normal_24 (by decide) ?_
  refine xr_eqz (y := ((1000 : Nat) : Int)) (by omega) ?_
  refine xr_iconst C d_RS_normal_27 ?_
  show XW _ _ _ _ _ _ _ _ (.int (zI (xb true)) :: _)
  refine xr_aload_n C 0 d_RS_normal_28 rfl rfl ?_
  refine xr_get (k := 0) C xg_RS_39 hw0 (by decide) rfl d_RS_normal_29 ?_
  refine xr_callV (k9 := 19) C (m_Rn_run hCT hT hS hn hw12 hw13 hw14 hw15 hw16 hw17 hw18 hco hch hle han hR (only := true) (most := 1000) (t := x.toNat) (by omega) (by omega) hsq hwsq hwsq1) xm_RS_113 x2_Rn_run hw19 (by decide) rfl (by decide) (by decide) (Nat.le_of_ble_eq_true rfl) rfl d_RS_normal_32 (fun En n9 ad9 w9 hx9 => hx9.elim) (fun v n9 ad9 w9 hp => ?_)
  obtain ⟨rfl, rfl, z1, rfl, S1, acc1, f1, er1, hT1, hx1, hz1, hzN1, hCT1, hS1, hmo1, hwsq, hwsq1, hRW1, hfr1⟩ := hp
  have hNN1 := hx1.1
  have hN1 := hT1.1
  have hw0 := (hfr1 0 (by omega) (by omega) (by omega) (by omega)).trans hw0
  have hw1 := ct_1 hCT1
  show XW _ _ _ _ _ _ 35 _ (_ :: _)
  refine xr_iload_n C 2 d_RS_normal_35 rfl rfl ?_
  refine xr_callV (k9 := 0) C (m_RS_needRun hLt hw0 hCT1 hT1 (n := sN S) (by omega) (x := z1) (by omega)) xm_RS_117 x2_RS_needRun hw0 (by decide) rfl (by decide) (by decide) (Nat.le_of_ble_eq_true rfl) rfl d_RS_normal_36 (fun En n9 ad9 w9 hx9 => by
        obtain ⟨rfl, rfl, rfl, hzn, hCTc, hfrc⟩ := hx9
        exact xx_out C E ⟨rfl, rfl, Or.inr (Or.inr ⟨rfl, by omega, by omega, S1, acc1, by rw [← er1, show z1 = -1 by omega], hx1, hT1, hCTc, rsc_fr hS1 (fun k a b => hfrc k (by omega)), ⟨_, f1, (hfrc _ (by omega)).trans hwsq, (hfrc _ (by omega)).trans hwsq1⟩, (hfrc 0 (by omega)).trans (hfr1 0 (by omega) (by omega) (by omega) (by omega)), fun k a b c d e => (hfrc k b).trans (hfr1 k b c d e)⟩)⟩ (by decide) (by decide)) (fun v n9 ad9 w9 hp => ?_)
  obtain ⟨rfl, rfl, zz1, rfl, rfl, hzz1, hz01⟩ := hp
  subst hzz1
  show XW _ _ _ _ _ _ 39 _ (_ :: _)
  refine xr_istore_n C 3 d_RS_normal_39 rfl (by decide) ?_
  refine xr_aload_n C 0 d_RS_normal_40 rfl rfl ?_
  obtain ⟨sp9, pz9, lz9, hw19⟩ := hmo1 hz01
  refine xr_callV (k9 := 0) C (m_RS_keepRun (se := se) (md := (acc1.length : Int)) hw0 hw19) xm_RS_121 x2_RS_keepRun hw0 (by decide) rfl (by decide) (by decide) (Nat.le_of_ble_eq_true rfl) rfl d_RS_normal_41 (fun En n9 ad9 w9 hx9 => hx9.elim) (fun v n9 ad9 w9 hp => ?_)
  obtain ⟨rfl, rfl, rfl, rfl⟩ := hp
  refine xr_iload_n C 3 d_RS_normal_44 rfl rfl ?_
  exact xr_iret C E ⟨rfl, rfl, _, rfl, by omega, by omega, S1, acc1, f1, er1, hz01, hzN1, hT1, hx1, ct_fr hCT1 (fun k a b => (va_ne (by omega))), rsc_fr hS1 (fun k a b => (va_ne (by omega))), rfl, (va_ne (by omega)).trans hwsq, (va_ne (by omega)).trans hwsq1, hRW1, fun k a b c d e => (va_ne a).trans (hfr1 k b c d e)⟩ (by decide) (by decide) d_RS_normal_45
set_option maxHeartbeats 4000000 in
set_option maxRecDepth 100000 in
theorem m_RS_joins {L : Launch} {D : va_G} {cA : Nat → ClassId} {base : Nat} {ad : Nat → Nat} {w : Nat → va_E} (hLt : L.stackTraces = false) {kp sq : Nat} {ls : Int} {se : Bool} (hw0 : w 0 = rsO ad kp sq ls se) (hsq : sq = 25 ∨ sq = 27) {sz : Int} {f0 : Nat → Int} (hwsq : w sq = roO ad sq sz) (hwsq1 : w (sq + 1) = xIA (cA 0) 800 f0) {S : xS} (hCT : CT ad cA w S) (hT : Tb S) (hS : RSC ad cA w) {n : Nat} {rl rr co le9 ch an : Nat → Int} (hn : n ≤ 16) (hw12 : w 12 = ruO ad (n : Int)) (hw13 : w 13 = xIA (cA 0) 16 rl) (hw14 : w 14 = xIA (cA 0) 16 rr) (hw15 : w 15 = xIA (cA 0) 16 co) (hw16 : w 16 = xIA (cA 1) 16 le9) (hw17 : w 17 = xIA (cA 1) 16 ch) (hw18 : w 18 = xIA (cA 0) 10 an) (hco : ∀ j, -1 ≤ co j ∧ co j < 10) (hch : ∀ j, ch j = 0 ∨ ch j = 1) (hle : ∀ j, le9 j = 0 ∨ le9 j = 1) (han : ∀ j, 0 ≤ an j ∧ an j ≤ 2) (hR : RG S n rl rr) {x : Int} (hx : -2147483648 ≤ x ∧ x < 2147483648) {y : Int} (hy : -2147483648 ≤ y ∧ y < 2147483648) : XM L D cA base y_RS_joins c_RS_joins 6 (some .boolean) (xrm 69 6 36) [.ref (ad 0), .int (zI x), .int (zI y)] 56 ad w (xRet 56 ad (fun z w' => ((0 ≤ x ∧ x < (sN S : Int)) ∧ (0 ≤ y ∧ y < (sN S : Int))) ∧ (sHo S x.toNat = 0 ∧ sHo S y.toNat = 0) ∧ ∃ (S1 S2 : xS) (z1 z2 : Int) (acc1 acc2 : List (Nat × Nat × Nat × Nat)), (z1, S1, acc1) = runS n rl rr (usS co ch an le9 true) 1000 S x.toNat [] ∧ 0 ≤ z1 ∧ (z2, S2, acc2) = runS n rl rr (usS co ch an le9 true) 1000 S1 y.toNat [] ∧ 0 ≤ z2 ∧ z = xb (decide (z1 = z2)) ∧ Tb S2 ∧ xt S S2 ∧ CT ad cA w' S2 ∧ RSC ad cA w' ∧ (∃ (sz : Int) (f : Nat → Int), w' sq = roO ad sq sz ∧ w' (sq + 1) = xIA (cA 0) 800 f) ∧ w' 0 = w 0 ∧ (∀ k, k ≠ 0 → (k < 1 ∨ 11 < k) → (k < 19 ∨ 24 < k) → k ≠ sq → k ≠ sq + 1 → w' k = w k))) (xThr 56 ad (fun E w' => (E = "java/lang/IndexOutOfBoundsException" ∧ ¬ ((0 ≤ x ∧ x < (sN S : Int)) ∧ (0 ≤ y ∧ y < (sN S : Int))) ∧ w = w') ∨ (E = "java/lang/IllegalArgumentException" ∧ ((0 ≤ x ∧ x < (sN S : Int)) ∧ (0 ≤ y ∧ y < (sN S : Int))) ∧ ¬ (sHo S x.toNat = 0 ∧ sHo S y.toNat = 0) ∧ w = w') ∨ (E = "java/lang/IllegalStateException" ∧ ((0 ≤ x ∧ x < (sN S : Int)) ∧ (0 ≤ y ∧ y < (sN S : Int))) ∧ (sHo S x.toNat = 0 ∧ sHo S y.toNat = 0) ∧ ∃ (S1 S2 : xS) (z1 : Int) (acc1 acc2 : List (Nat × Nat × Nat × Nat)), (z1, S1, acc1) = runS n rl rr (usS co ch an le9 true) 1000 S x.toNat [] ∧ ((z1 < 0 ∧ S2 = S1) ∨ (0 ≤ z1 ∧ (-1, S2, acc2) = runS n rl rr (usS co ch an le9 true) 1000 S1 y.toNat [])) ∧ xt S S2 ∧ Tb S2 ∧ CT ad cA w' (cut S2 (sN S)) ∧ RSC ad cA w' ∧ (∃ (sz : Int) (f : Nat → Int), w' sq = roO ad sq sz ∧ w' (sq + 1) = xIA (cA 0) 800 f) ∧ w' 0 = w 0 ∧ (∀ k, k ≠ 0 → (k < 1 ∨ 11 < k) → (k < 19 ∨ 24 < k) → k ≠ sq → k ≠ sq + 1 → w' k = w k)))) := by
  refine xm_of (by decide +kernel) (by simp [Value.category]) (Nat.le_of_ble_eq_true rfl) (fun G C E _ => ?_)
  obtain ⟨⟨sp, pz, lz, md, mo, hw19⟩, -⟩ := id hS
  have hN := hT.1
  obtain ⟨mk, fs, sn, wt, pl, dp, ho, hc, nw, od, hw1, hw2, hw3, hw4, hw5, hw6, hw7, hw8, hw9, hw10, hw11, hC⟩ := id hCT
  refine xr_aload_n C 0 d_RS_joins_0 rfl rfl ?_
  refine xr_iload_n C 1 d_RS_joins_1 rfl rfl ?_
  refine xr_callV (k9 := 0) C (m_RS_needTree hLt hw0 hw1 (by omega) (x := x) (by omega)) xm_RS_67 x2_RS_needTree hw0 (by decide) rfl (by decide) (by decide) (Nat.le_of_ble_eq_true rfl) rfl d_RS_joins_2 (fun En n9 ad9 w9 hx9 => by
        obtain ⟨rfl, rfl, rfl, rfl, hq⟩ := hx9
        exact xx_out C E ⟨rfl, rfl, Or.inl ⟨rfl, by omega, rfl⟩⟩ (by decide) (by decide)) (fun v n9 ad9 w9 hp => ?_)
  obtain ⟨rfl, rfl, rfl, rfl, hq0a, hq1a⟩ := hp
  have mha := (hC.1 (x).toNat (by omega)).2.2.2.2.2.2
  refine xr_aload_n C 0 d_RS_joins_5 rfl rfl ?_
  refine xr_iload_n C 2 d_RS_joins_6 rfl rfl ?_
  refine xr_callV (k9 := 0) C (m_RS_needTree hLt hw0 hw1 (by omega) (x := y) (by omega)) xm_RS_67 x2_RS_needTree hw0 (by decide) rfl (by decide) (by decide) (Nat.le_of_ble_eq_true rfl) rfl d_RS_joins_7 (fun En n9 ad9 w9 hx9 => by
        obtain ⟨rfl, rfl, rfl, rfl, hq⟩ := hx9
        exact xx_out C E ⟨rfl, rfl, Or.inl ⟨rfl, by omega, rfl⟩⟩ (by decide) (by decide)) (fun v n9 ad9 w9 hp => ?_)
  obtain ⟨rfl, rfl, rfl, rfl, hq0b, hq1b⟩ := hp
  have mhb := (hC.1 (y).toNat (by omega)).2.2.2.2.2.2
  refine xr_aload_n C 0 d_RS_joins_10 rfl rfl ?_
  refine xr_iload_n C 1 d_RS_joins_11 rfl rfl ?_
  refine xr_callV (k9 := 0) C (m_RS_needPlain hLt hw0 hw1 hw8 (fun j => (hC.2.2.1 j).2.2.2.2.2.2.1) (x := x) (by omega)) xm_RS_105 x2_RS_needPlain hw0 (by decide) rfl (by decide) (by decide) (Nat.le_of_ble_eq_true rfl) rfl d_RS_joins_12 (fun En n9 ad9 w9 hx9 => by
        obtain ⟨rfl, rfl, rfl, rfl, hq⟩ := hx9
        exact xx_out C E ⟨rfl, rfl, Or.inr (Or.inl ⟨rfl, by omega, by omega, rfl⟩)⟩ (by decide) (by decide)) (fun v n9 ad9 w9 hp => ?_)
  obtain ⟨rfl, rfl, rfl, rfl, hpla⟩ := hp
  refine xr_aload_n C 0 d_RS_joins_15 rfl rfl ?_
  refine xr_iload_n C 2 d_RS_joins_16 rfl rfl ?_
  refine xr_callV (k9 := 0) C (m_RS_needPlain hLt hw0 hw1 hw8 (fun j => (hC.2.2.1 j).2.2.2.2.2.2.1) (x := y) (by omega)) xm_RS_105 x2_RS_needPlain hw0 (by decide) rfl (by decide) (by decide) (Nat.le_of_ble_eq_true rfl) rfl d_RS_joins_17 (fun En n9 ad9 w9 hx9 => by
        obtain ⟨rfl, rfl, rfl, rfl, hq⟩ := hx9
        exact xx_out C E ⟨rfl, rfl, Or.inr (Or.inl ⟨rfl, by omega, by omega, rfl⟩)⟩ (by decide) (by decide)) (fun v n9 ad9 w9 hp => ?_)
  obtain ⟨rfl, rfl, rfl, rfl, hplb⟩ := hp
  refine xr_aload_n C 0 d_RS_joins_20 rfl rfl ?_
  refine xr_get (k := 0) C xg_RS_10 hw0 (by decide) rfl d_RS_joins_21 ?_
  refine xr_get (k := 1) C xg_RS_110 hw1 (by decide) rfl d_RS_joins_24 ?_
  refine xr_istore_n C 3 d_RS_joins_27 rfl (by decide) ?_
  refine xr_aload_n C 0 d_RS_joins_28 rfl rfl ?_
  refine xr_aload_n C 0 d_RS_joins_29 rfl rfl ?_
  refine xr_get (k := 0) C xg_RS_28 hw0 (by decide) rfl d_RS_joins_30 ?_
  refine xr_iload_n C 1 d_RS_joins_33 rfl rfl ?_
  refine xr_eqz (y := ((x.toNat : Nat) : Int)) (by omega) ?_
  refine xr_sipush C d_RS_joins_34 (by decide) ?_
  refine xr_eqz (y := ((1000 : Nat) : Int)) (by omega) ?_
  refine xr_iconst C d_RS_joins_37 ?_
  show XW _ _ _ _ _ _ _ _ (.int (zI (xb true)) :: _)
  refine xr_aload_n C 0 d_RS_joins_38 rfl rfl ?_
  refine xr_get (k := 0) C xg_RS_39 hw0 (by decide) rfl d_RS_joins_39 ?_
  refine xr_callV (k9 := 19) C (m_Rn_run hCT hT hS hn hw12 hw13 hw14 hw15 hw16 hw17 hw18 hco hch hle han hR (only := true) (most := 1000) (t := x.toNat) (by omega) (by omega) hsq hwsq hwsq1) xm_RS_113 x2_Rn_run hw19 (by decide) rfl (by decide) (by decide) (Nat.le_of_ble_eq_true rfl) rfl d_RS_joins_42 (fun En n9 ad9 w9 hx9 => hx9.elim) (fun v n9 ad9 w9 hp => ?_)
  obtain ⟨rfl, rfl, z1, rfl, S1, acc1, f1, er1, hT1, hx1, hz1, hzN1, hCT1, hS1, hmo1, hwsq, hwsq1, hRW1, hfr1⟩ := hp
  have hNN1 := hx1.1
  have hN1 := hT1.1
  have hw0 := (hfr1 0 (by omega) (by omega) (by omega) (by omega)).trans hw0
  have hw1 := ct_1 hCT1
  show XW _ _ _ _ _ _ 45 _ (_ :: _)
  refine xr_iload_n C 3 d_RS_joins_45 rfl rfl ?_
  refine xr_callV (k9 := 0) C (m_RS_needRun hLt hw0 hCT1 hT1 (n := sN S) (by omega) (x := z1) (by omega)) xm_RS_117 x2_RS_needRun hw0 (by decide) rfl (by decide) (by decide) (Nat.le_of_ble_eq_true rfl) rfl d_RS_joins_46 (fun En n9 ad9 w9 hx9 => by
        obtain ⟨rfl, rfl, rfl, hzn, hCTc, hfrc⟩ := hx9
        exact xx_out C E ⟨rfl, rfl, Or.inr (Or.inr ⟨rfl, by omega, by omega, S1, S1, z1, acc1, acc1, er1, Or.inl ⟨by omega, rfl⟩, hx1, hT1, hCTc, rsc_fr hS1 (fun k a b => hfrc k (by omega)), ⟨_, f1, (hfrc _ (by omega)).trans hwsq, (hfrc _ (by omega)).trans hwsq1⟩, (hfrc 0 (by omega)).trans (hfr1 0 (by omega) (by omega) (by omega) (by omega)), fun k a b c d e => (hfrc k b).trans (hfr1 k b c d e)⟩)⟩ (by decide) (by decide)) (fun v n9 ad9 w9 hp => ?_)
  obtain ⟨rfl, rfl, zz1, rfl, rfl, hzz1, hz01⟩ := hp
  subst hzz1
  show XW _ _ _ _ _ _ 49 _ (_ :: _)
  refine xr_istore C d_RS_joins_49 (by decide) ?_
  refine xr_aload_n C 0 d_RS_joins_51 rfl rfl ?_
  refine xr_aload_n C 0 d_RS_joins_52 rfl rfl ?_
  refine xr_get (k := 0) C xg_RS_28 hw0 (by decide) rfl d_RS_joins_53 ?_
  obtain ⟨sp9, pz9, lz9, hw19⟩ := hmo1 hz01
  have hw12 := (hfr1 12 (by omega) (by omega) (by omega) (by omega)).trans hw12
  have hw13 := (hfr1 13 (by omega) (by omega) (by omega) (by omega)).trans hw13
  have hw14 := (hfr1 14 (by omega) (by omega) (by omega) (by omega)).trans hw14
  have hw15 := (hfr1 15 (by omega) (by omega) (by omega) (by omega)).trans hw15
  have hw16 := (hfr1 16 (by omega) (by omega) (by omega) (by omega)).trans hw16
  have hw17 := (hfr1 17 (by omega) (by omega) (by omega) (by omega)).trans hw17
  have hw18 := (hfr1 18 (by omega) (by omega) (by omega) (by omega)).trans hw18
  refine xr_iload_n C 2 d_RS_joins_56 rfl rfl ?_
  refine xr_eqz (y := ((y.toNat : Nat) : Int)) (by omega) ?_
  refine xr_sipush C d_RS_joins_57 (by decide) ?_
  refine xr_eqz (y := ((1000 : Nat) : Int)) (by omega) ?_
  refine xr_iconst C d_RS_joins_60 ?_
  show XW _ _ _ _ _ _ _ _ (.int (zI (xb true)) :: _)
  refine xr_aload_n C 0 d_RS_joins_61 rfl rfl ?_
  refine xr_get (k := 0) C xg_RS_39 hw0 (by decide) rfl d_RS_joins_62 ?_
  refine xr_callV (k9 := 19) C (m_Rn_run hCT1 hT1 hS1 hn hw12 hw13 hw14 hw15 hw16 hw17 hw18 hco hch hle han (rg_xt hx1 hR) (only := true) (most := 1000) (t := y.toNat) (by omega) (by omega) hsq hwsq hwsq1) xm_RS_113 x2_Rn_run hw19 (by decide) rfl (by decide) (by decide) (Nat.le_of_ble_eq_true rfl) rfl d_RS_joins_65 (fun En n9 ad9 w9 hx9 => hx9.elim) (fun v n9 ad9 w9 hp => ?_)
  obtain ⟨rfl, rfl, z2, rfl, S2, acc2, f2, er2, hT2, hx2, hz2, hzN2, hCT2, hS2, hmo2, hwsq, hwsq1, hRW2, hfr2⟩ := hp
  have hNN2 := hx2.1
  have hN2 := hT2.1
  have hw0 := (hfr2 0 (by omega) (by omega) (by omega) (by omega)).trans hw0
  have hw1 := ct_1 hCT2
  show XW _ _ _ _ _ _ 68 _ (_ :: _)
  refine xr_iload_n C 3 d_RS_joins_68 rfl rfl ?_
  refine xr_callV (k9 := 0) C (m_RS_needRun hLt hw0 hCT2 hT2 (n := sN S) (by omega) (x := z2) (by omega)) xm_RS_117 x2_RS_needRun hw0 (by decide) rfl (by decide) (by decide) (Nat.le_of_ble_eq_true rfl) rfl d_RS_joins_69 (fun En n9 ad9 w9 hx9 => by
        obtain ⟨rfl, rfl, rfl, hzn, hCTc, hfrc⟩ := hx9
        exact xx_out C E ⟨rfl, rfl, Or.inr (Or.inr ⟨rfl, by omega, by omega, S1, S2, zz1, acc1, acc2, er1, Or.inr ⟨hz01, by rw [← er2, show z2 = -1 by omega]⟩, xt_trans hx1 hx2, hT2, hCTc, rsc_fr hS2 (fun k a b => hfrc k (by omega)), ⟨_, f2, (hfrc _ (by omega)).trans hwsq, (hfrc _ (by omega)).trans hwsq1⟩, (hfrc 0 (by omega)).trans ((hfr2 0 (by omega) (by omega) (by omega) (by omega)).trans (hfr1 0 (by omega) (by omega) (by omega) (by omega))), fun k a b c d e => (hfrc k b).trans ((hfr2 k b c d e).trans (hfr1 k b c d e))⟩)⟩ (by decide) (by decide)) (fun v n9 ad9 w9 hp => ?_)
  obtain ⟨rfl, rfl, zz2, rfl, rfl, hzz2, hz02⟩ := hp
  subst hzz2
  show XW _ _ _ _ _ _ 72 _ (_ :: _)
  refine xr_istore C d_RS_joins_72 (by decide) ?_
  refine xr_iload C d_RS_joins_74 rfl ?_
  refine xr_iload C d_RS_joins_76 rfl ?_
  refine xz_icmp_ne (tgt := 85) C d_RS_joins_78 (by decide) (by omega) (by omega) (fun c78 => ?_) (fun c78 => ?_)
  · skip
    refine xr_iconst C d_RS_joins_85 ?_
    exact xr_zret C E (by omega) ⟨rfl, rfl, _, rfl, by omega, by omega, S1, S2, zz1, zz2, acc1, acc2, er1, hz01, er2, hz02, by exact xb_z (by omega), hT2, xt_trans hx1 hx2, hCT2, hS2, ⟨_, f2, hwsq, hwsq1⟩, (hfr2 0 (by omega) (by omega) (by omega) (by omega)).trans (hfr1 0 (by omega) (by omega) (by omega) (by omega)), fun k a b c d e => (hfr2 k b c d e).trans (hfr1 k b c d e)⟩ (by decide) (by decide) d_RS_joins_86
  · skip
    refine xr_iconst C d_RS_joins_81 ?_
    refine xr_goto (tgt := 86) C d_RS_joins_82 (by decide) ?_
    exact xr_zret C E (by omega) ⟨rfl, rfl, _, rfl, by omega, by omega, S1, S2, zz1, zz2, acc1, acc2, er1, hz01, er2, hz02, by exact xb_z (by omega), hT2, xt_trans hx1 hx2, hCT2, hS2, ⟨_, f2, hwsq, hwsq1⟩, (hfr2 0 (by omega) (by omega) (by omega) (by omega)).trans (hfr1 0 (by omega) (by omega) (by omega) (by omega)), fun k a b c d e => (hfr2 k b c d e).trans (hfr1 k b c d e)⟩ (by decide) (by decide) d_RS_joins_86
