set_option maxHeartbeats 4000000 in
set_option maxRecDepth 100000 in
theorem m_Md_joins {L : Launch} {D : va_G} {cA : Nat → ClassId} {base : Nat} {ad : Nat → Nat} {w : Nat → va_E} {S : xS} {n : Nat} {ro sp nr ns th : Int} {se fa so : Bool} (hMT : MT ad cA w S (n : Int) ro sp nr ns th se fa so) (hT : Tb S) (hM : MSC cA w) {rl rr : Nat → Int} (hn : n ≤ 16) (hw37 : w 37 = xIA (cA 0) 16 rl) (hw38 : w 38 = xIA (cA 0) 16 rr) (hR : RG S n rl rr) {co ch an : Nat → Int} (hw39 : w 39 = xIA (cA 0) 16 co) (hw40 : w 40 = xIA (cA 1) 16 ch) (hw41 : w 41 = xIA (cA 0) 10 an) (hco : ∀ j, -1 ≤ co j ∧ co j < 10) (hch : ∀ j, ch j = 0 ∨ ch j = 1) (han : ∀ j, 0 ≤ an j ∧ an j ≤ 2) {le9 f42 : Nat → Int} (hle : ∀ r, r < n → le9 r = xb (abv S (rl r).toNat (rr r).toNat)) (hw42 : w 42 = xIA (cA 0) 800 f42) {x : Int} (hx : -2147483648 ≤ x ∧ x < 2147483648) {y : Int} (hy : -2147483648 ≤ y ∧ y < 2147483648) : XM L D cA base y_Md_joins c_Md_joins 6 (some .boolean) (xrm 6 0 0) [.ref (ad 29), .int (zI x), .int (zI y)] 56 ad w (xRet 56 ad (fun v w' => (¬ ((0 ≤ x ∧ x < (sN S : Int)) ∧ (0 ≤ y ∧ y < (sN S : Int))) ∧ v = 0 ∧ w' = va_up w 29 (mdO ad (sN S : Int) (n : Int) ro sp nr ns 1 se fa so)) ∨ (((0 ≤ x ∧ x < (sN S : Int)) ∧ (0 ≤ y ∧ y < (sN S : Int))) ∧ ¬ (sHo S x.toNat = 0 ∧ sHo S y.toNat = 0) ∧ v = 0 ∧ w' = va_up w 29 (mdO ad (sN S : Int) (n : Int) ro sp nr ns 2 se fa so)) ∨ (((0 ≤ x ∧ x < (sN S : Int)) ∧ (0 ≤ y ∧ y < (sN S : Int))) ∧ (sHo S x.toNat = 0 ∧ sHo S y.toNat = 0) ∧ ∃ (z1 : Int) (S1 : xS) (acc1 : List (Nat × Nat × Nat × Nat)), (z1, S1, acc1) = runS n rl rr (usS co ch an le9 true) 1000 S x.toNat [] ∧ xt S S1 ∧ Tb S1 ∧ MSC cA w' ∧ (∀ k, (k < 29 ∨ 36 < k) → (k < 42 ∨ 54 < k) → w' k = w k) ∧ w' 42 = w 42 ∧ ((z1 < 0 ∧ v = 0 ∧ ∃ (nr ns : Int) (so : Bool), MT ad cA w' (cut S1 (sN S)) (n : Int) ro sp nr ns 3 se true so) ∨ (0 ≤ z1 ∧ ∃ (z2 : Int) (S2 : xS) (acc2 : List (Nat × Nat × Nat × Nat)), (z2, S2, acc2) = runS n rl rr (usS co ch an le9 true) 1000 S1 y.toNat [] ∧ xt S S2 ∧ Tb S2 ∧ ((z2 < 0 ∧ v = 0 ∧ ∃ (nr ns : Int) (so : Bool), MT ad cA w' (cut S2 (sN S)) (n : Int) ro sp nr ns 3 se true so) ∨ (0 ≤ z2 ∧ z2 < sN S2 ∧ v = xb (decide (z1 = z2)) ∧ ∃ (nr ns : Int) (so : Bool), MT ad cA w' S2 (n : Int) ro sp nr ns 0 se false so))))))) xF := by
  refine xm_of (by decide +kernel) (by simp [Value.category]) (Nat.le_of_ble_eq_true rfl) (fun G C E _ => ?_)
  obtain ⟨sg, fs, sn, wt, pl, dp, ho, hw29, hw30, hw31, hw32, hw33, hw34, hw35, hw36, hA⟩ := hMT
  have hN := hT.1
  obtain ⟨f54, hw54⟩ := hM.2.2.1
  obtain ⟨f43, hw43⟩ := hM.2.2.2
  have hw42z := hw42
  refine xr_aload_n C 0 d_Md_joins_0 rfl rfl ?_
  refine xr_aload_n C 0 d_Md_joins_1 rfl rfl ?_
  refine xr_iload_n C 1 d_Md_joins_2 rfl rfl ?_
  refine xr_callV (k9 := 29) C (m_Md_isTree hw29 (by omega) (x := x) (by omega)) xm_Md_109 x2_Md_isTree hw29 (by decide) rfl (by decide) (by decide) (Nat.le_of_ble_eq_true rfl) rfl d_Md_joins_3 (fun En n9 ad9 w9 hx9 => hx9.elim) (fun v n9 ad9 w9 hp => ?_)
  obtain ⟨rfl, rfl, rfl, rfl⟩ := hp
  show XW _ _ _ _ _ _ 6 _ (_ :: _)
  refine xb_if_eq (tgt := 17) C d_Md_joins_6 (by decide)  (fun c6 => ?_) (fun c6 => ?_)
  · skip
    have b6 : ¬ (0 ≤ x ∧ x < (sN S : Int)) := of_decide_eq_false c6
    refine xr_iconst C d_Md_joins_17 ?_
    refine xr_goto (tgt := 44) C d_Md_joins_18 (by decide) ?_
    refine xr_put (k := 29) C xf_Md_86 hw29 (by decide) rfl rfl (Nat.le_of_ble_eq_true rfl) d_Md_joins_44 ?_
    refine xr_aload_n C 0 d_Md_joins_47 rfl rfl ?_
    refine xr_get (k := 29) C xg_Md_86 rfl (by decide) rfl d_Md_joins_48 ?_
    refine xz_if_eq (tgt := 56) C d_Md_joins_51 (by decide) (by omega) (fun c51 => by exfalso; omega) (fun c51 => ?_)
    refine xr_iconst C d_Md_joins_54 ?_
    exact xr_zret C E (by omega) ⟨rfl, rfl, _, rfl, by first | exact Or.inl ⟨by omega, rfl, rfl⟩ | exact Or.inr (Or.inl ⟨by omega, by omega, rfl, rfl⟩)⟩ (by decide) (by decide) d_Md_joins_55
  · skip
    have b6 : (0 ≤ x ∧ x < (sN S : Int)) := of_decide_eq_true c6
    refine xr_aload_n C 0 d_Md_joins_9 rfl rfl ?_
    refine xr_iload_n C 2 d_Md_joins_10 rfl rfl ?_
    refine xr_callV (k9 := 29) C (m_Md_isTree hw29 (by omega) (x := y) (by omega)) xm_Md_109 x2_Md_isTree hw29 (by decide) rfl (by decide) (by decide) (Nat.le_of_ble_eq_true rfl) rfl d_Md_joins_11 (fun En n9 ad9 w9 hx9 => hx9.elim) (fun v n9 ad9 w9 hp => ?_)
    obtain ⟨rfl, rfl, rfl, rfl⟩ := hp
    show XW _ _ _ _ _ _ 14 _ (_ :: _)
    refine xb_if_ne (tgt := 21) C d_Md_joins_14 (by decide)  (fun c14 => ?_) (fun c14 => ?_)
    · skip
      have b14 : (0 ≤ y ∧ y < (sN S : Int)) := of_decide_eq_true c14
      have mhx := (hA.1 x.toNat (by omega)).2.2.2.2.2.2
      have rhx := (hA.2 x.toNat).2.2.2.2.2.2
      have mhy := (hA.1 y.toNat (by omega)).2.2.2.2.2.2
      have rhy := (hA.2 y.toNat).2.2.2.2.2.2
      refine xr_aload_n C 0 d_Md_joins_21 rfl rfl ?_
      refine xr_get (k := 29) C xg_Md_28 hw29 (by decide) rfl d_Md_joins_22 ?_
      refine xr_iload_n C 1 d_Md_joins_25 rfl rfl ?_
      refine xz_iald (k := 36) C hw36 (by decide) (by omega) (by decide) d_Md_joins_26 ?_
      refine xz_if_ne (tgt := 39) C d_Md_joins_27 (by decide) (by omega) (fun c27 => ?_) (fun c27 => ?_)
      · skip
        refine xr_iconst C d_Md_joins_39 ?_
        refine xr_goto (tgt := 44) C d_Md_joins_40 (by decide) ?_
        refine xr_put (k := 29) C xf_Md_86 hw29 (by decide) rfl rfl (Nat.le_of_ble_eq_true rfl) d_Md_joins_44 ?_
        refine xr_aload_n C 0 d_Md_joins_47 rfl rfl ?_
        refine xr_get (k := 29) C xg_Md_86 rfl (by decide) rfl d_Md_joins_48 ?_
        refine xz_if_eq (tgt := 56) C d_Md_joins_51 (by decide) (by omega) (fun c51 => by exfalso; omega) (fun c51 => ?_)
        refine xr_iconst C d_Md_joins_54 ?_
        exact xr_zret C E (by omega) ⟨rfl, rfl, _, rfl, by first | exact Or.inl ⟨by omega, rfl, rfl⟩ | exact Or.inr (Or.inl ⟨by omega, by omega, rfl, rfl⟩)⟩ (by decide) (by decide) d_Md_joins_55
      · skip
        refine xr_aload_n C 0 d_Md_joins_30 rfl rfl ?_
        refine xr_get (k := 29) C xg_Md_28 hw29 (by decide) rfl d_Md_joins_31 ?_
        refine xr_iload_n C 2 d_Md_joins_34 rfl rfl ?_
        refine xz_iald (k := 36) C hw36 (by decide) (by omega) (by decide) d_Md_joins_35 ?_
        refine xz_if_eq (tgt := 43) C d_Md_joins_36 (by decide) (by omega) (fun c36 => ?_) (fun c36 => ?_)
        · skip
          refine xr_iconst C d_Md_joins_43 ?_
          refine xr_put (k := 29) C xf_Md_86 hw29 (by decide) rfl rfl (Nat.le_of_ble_eq_true rfl) d_Md_joins_44 ?_
          refine xr_aload_n C 0 d_Md_joins_47 rfl rfl ?_
          refine xr_get (k := 29) C xg_Md_86 rfl (by decide) rfl d_Md_joins_48 ?_
          refine xz_if_eq (tgt := 56) C d_Md_joins_51 (by decide) (by omega) (fun c51 => ?_) (fun c51 => by exfalso; omega)
          refine xr_aload_n C 0 d_Md_joins_56 rfl rfl ?_
          refine xr_get (k := 29) C xg_Md_90 rfl (by decide) rfl d_Md_joins_57 ?_
          refine xr_istore_n C 3 d_Md_joins_60 rfl (by decide) ?_
          refine xr_aload_n C 0 d_Md_joins_61 rfl rfl ?_
          refine xr_iconst C d_Md_joins_62 ?_
          show XW _ _ _ _ _ _ _ _ (.int (zI (xb true)) :: _)
          refine xr_callV (k9 := 29) C (m_Md_lookForRules (w := va_up w 29 (mdO ad (sN S : Int) (n : Int) ro sp nr ns 0 se fa so)) (only := true) ⟨sg, fs, sn, wt, pl, dp, ho, rfl, hw30, hw31, hw32, hw33, hw34, hw35, hw36, hA⟩ hT hM.1 hn hw37 hw38 hR hw39 hw40 hw41 hco hch han hle hw54) xm_Md_176 x2_Md_lookForRules rfl (by decide) rfl (by decide) (by decide) (Nat.le_of_ble_eq_true rfl) rfl d_Md_joins_63 (fun En n9 ad9 w9 hx9 => hx9.elim) (fun v n9 ad9 w9 hp => ?_)
          obtain ⟨rfl, rfl, rfl, fu, hw54', hus, hSA1, hfr1⟩ := hp
          have hMG1 := mg_sa (w := va_up w 29 (mdO ad (sN S : Int) (n : Int) ro sp nr ns 0 se fa so)) hM.2.1 hSA1 hfr1
          have hw29 : w9 29 = mdO ad (sN S : Int) (n : Int) ro sp nr ns 0 se fa so := (hfr1 29 (by decide) (by decide) (by decide) (by decide) (by decide)).trans va_eq
          have hw37 := (hfr1 37 (by decide) (by decide) (by decide) (by decide) (by decide)).trans hw37
          have hw38 := (hfr1 38 (by decide) (by decide) (by decide) (by decide) (by decide)).trans hw38
          have hw42 := (hfr1 42 (by decide) (by decide) (by decide) (by decide) (by decide)).trans hw42
          have hw43 := (hfr1 43 (by decide) (by decide) (by decide) (by decide) (by decide)).trans hw43
          have hMT1 : MT ad cA w9 S (n : Int) ro sp nr ns 0 se fa so := mt_fr (w := va_up w 29 (mdO ad (sN S : Int) (n : Int) ro sp nr ns 0 se fa so)) ⟨sg, fs, sn, wt, pl, dp, ho, rfl, hw30, hw31, hw32, hw33, hw34, hw35, hw36, hA⟩ (fun k a b => hfr1 k (by omega) (by omega) (by omega) (by omega) (by omega))
          have hfrA : (∀ k, (k < 29 ∨ 36 < k) → (k < 42 ∨ 54 < k) → w9 k = w k) := fun k a b => (hfr1 k (by omega) (by omega) (by omega) (by omega) (by omega)).trans (va_ne (by omega))
          refine xr_aload_n C 0 d_Md_joins_66 rfl rfl ?_
          refine xr_iload_n C 1 d_Md_joins_67 rfl rfl ?_
          refine xr_eqz (y := ((x.toNat : Nat) : Int)) (by omega) ?_
          refine xr_iconst C d_Md_joins_68 ?_
          refine xr_callV (k9 := 29) C (m_Md_go (M := 1000) (most := -1) hMT1 hT hn hw37 hw38 hR hw54' hus hMG1 hw43 (t := x.toNat) (by omega) (Or.inr ⟨rfl, rfl, (fun r hr hu => by
                    have h9 := hle r hr
                    have : le9 r = 1 := by
                      unfold usS at hu
                      simp at hu
                      exact hu.2
                    cases e : abv S (rl r).toNat (rr r).toNat with
                    | true => rfl
                    | false => rw [e, this] at h9; exact absurd h9 (by decide))⟩)) xm_Md_180 x2_Md_go hw29 (by decide) rfl (by decide) (by decide) (Nat.le_of_ble_eq_true rfl) rfl d_Md_joins_69 (fun En n9 ad9 w9 hx9 => hx9.elim) (fun v n9 ad9 w9 hp => ?_)
          obtain ⟨rfl, rfl, v1, rfl, z1, S1, acc1, hrun1, hT1, hx1, hz11, hzN1, hMGa1, ⟨fr1, hw43, hRW1⟩, hfrg1, hcase1⟩ := hp
          have hSAa1 := sa_mg hSA1 hMGa1 (fun k a b => hfrg1 k (by omega) (by omega) (by omega) (by omega) (by omega))
          have hw54a1 := (hfrg1 54 (by omega) (by omega) (by omega) (by omega) (by omega)).trans hw54'
          have hw42 := (hfrg1 42 (by omega) (by omega) (by omega) (by omega) (by omega)).trans hw42
          have hfrB1 : (∀ k, (k < 29 ∨ 36 < k) → (k < 42 ∨ 54 < k) → w9 k = w k) := fun k a b => (hfrg1 k a (by omega) (by omega) (by omega) (by omega)).trans (hfrA k a b)
          have hM1 : MSC cA w9 := ⟨hSAa1, hMGa1, ⟨fu, hw54a1⟩, ⟨fr1, hw43⟩⟩
          show XW _ _ _ _ _ _ 72 _ (_ :: _)
          rcases hcase1 with ⟨hz, hv1, hMT2⟩ | ⟨hz, nr2, ns2, hMT2⟩
          · obtain ⟨sg, fs, sn, wt, pl, dp, ho, hw29, hw30, hw31, hw32, hw33, hw34, hw35, hw36, hA⟩ := id hMT2
            refine xr_istore C d_Md_joins_72 (by decide) ?_
            refine xr_aload_n C 0 d_Md_joins_74 rfl rfl ?_
            refine xr_get (k := 29) C xg_Md_97 hw29 (by decide) rfl d_Md_joins_75 ?_
            refine xb_if_eq (tgt := 85) C d_Md_joins_78 (by decide)  (fun c78 => ?_) (fun c78 => by exfalso; exact absurd c78 (by decide))
            refine xr_aload_n C 0 d_Md_joins_85 rfl rfl ?_
            refine xr_iload_n C 2 d_Md_joins_86 rfl rfl ?_
            refine xr_eqz (y := ((y.toNat : Nat) : Int)) (by omega) ?_
            refine xr_iconst C d_Md_joins_87 ?_
            have hNN1 := hx1.1
            have hw37 := (hfrg1 37 (by omega) (by omega) (by omega) (by omega) (by omega)).trans hw37
            have hw38 := (hfrg1 38 (by omega) (by omega) (by omega) (by omega) (by omega)).trans hw38
            refine xr_callV (k9 := 29) C (m_Md_go (M := 1000) (most := -1) hMT2 hT1 hn hw37 hw38 (rg_xt hx1 hR) hw54a1 hus hMGa1 hw43 (t := y.toNat) (by omega) (Or.inr ⟨rfl, rfl, (fun r hr hu => by
                      have h9 := hle r hr
                      have : le9 r = 1 := by
                        unfold usS at hu
                        simp at hu
                        exact hu.2
                      rw [xt_abv hT hx1 _ _ (by have := (hR r hr).1; omega) (by have := (hR r hr).2.1; omega)]
                      cases e : abv S (rl r).toNat (rr r).toNat with
                      | true => rfl
                      | false => rw [e, this] at h9; exact absurd h9 (by decide))⟩)) xm_Md_180 x2_Md_go hw29 (by decide) rfl (by decide) (by decide) (Nat.le_of_ble_eq_true rfl) rfl d_Md_joins_88 (fun En n9 ad9 w9 hx9 => hx9.elim) (fun v n9 ad9 w9 hp => ?_)
            obtain ⟨rfl, rfl, v2, rfl, z2, S2, acc2, hrun2, hT2, hx2, hz21, hzN2, hMGa2, ⟨fr2, hw43, hRW2⟩, hfrg2, hcase2⟩ := hp
            have hSAa2 := sa_mg hSAa1 hMGa2 (fun k a b => hfrg2 k (by omega) (by omega) (by omega) (by omega) (by omega))
            have hw54a2 := (hfrg2 54 (by omega) (by omega) (by omega) (by omega) (by omega)).trans hw54a1
            have hw42 := (hfrg2 42 (by omega) (by omega) (by omega) (by omega) (by omega)).trans hw42
            have hfrB2 : (∀ k, (k < 29 ∨ 36 < k) → (k < 42 ∨ 54 < k) → w9 k = w k) := fun k a b => (hfrg2 k a (by omega) (by omega) (by omega) (by omega)).trans (hfrB1 k a b)
            have hM2 : MSC cA w9 := ⟨hSAa2, hMGa2, ⟨fu, hw54a2⟩, ⟨fr2, hw43⟩⟩
            show XW _ _ _ _ _ _ 91 _ (_ :: _)
            rcases hcase2 with ⟨hz2, hv2, hMT3⟩ | ⟨hz2, nr3, ns3, hMT3⟩
            · obtain ⟨sg, fs, sn, wt, pl, dp, ho, hw29, hw30, hw31, hw32, hw33, hw34, hw35, hw36, hA⟩ := id hMT3
              refine xr_istore C d_Md_joins_91 (by decide) ?_
              refine xr_aload_n C 0 d_Md_joins_93 rfl rfl ?_
              refine xr_aload_n C 0 d_Md_joins_94 rfl rfl ?_
              refine xr_get (k := 29) C xg_Md_97 hw29 (by decide) rfl d_Md_joins_95 ?_
              refine xb_if_eq (tgt := 105) C d_Md_joins_98 (by decide)  (fun c98 => ?_) (fun c98 => by exfalso; exact absurd c98 (by decide))
              refine xr_iconst C d_Md_joins_105 ?_
              refine xr_put (k := 29) C xf_Md_86 hw29 (by decide) rfl rfl (Nat.le_of_ble_eq_true rfl) d_Md_joins_106 ?_
              refine xr_aload_n C 0 d_Md_joins_109 rfl rfl ?_
              refine xr_get (k := 29) C xg_Md_97 rfl (by decide) rfl d_Md_joins_110 ?_
              refine xb_if_eq (tgt := 121) C d_Md_joins_113 (by decide)  (fun c113 => ?_) (fun c113 => by exfalso; exact absurd c113 (by decide))
              refine xr_aload_n C 0 d_Md_joins_121 rfl rfl ?_
              refine xr_get (k := 29) C xg_Md_97 rfl (by decide) rfl d_Md_joins_122 ?_
              refine xb_if_ne (tgt := 139) C d_Md_joins_125 (by decide)  (fun c125 => by exfalso; exact absurd c125 (by decide)) (fun c125 => ?_)
              refine xr_iload C d_Md_joins_128 rfl ?_
              refine xr_iload C d_Md_joins_130 rfl ?_
              have hN2 := hT2.1
              have hN1 := hT1.1
              refine xz_icmp_ne (tgt := 139) C d_Md_joins_132 (by decide) (by omega) (by omega) (fun c132 => ?_) (fun c132 => ?_)
              · skip
                refine xr_iconst C d_Md_joins_139 ?_
                exact xr_zret C E (by omega) ⟨rfl, rfl, _, rfl, Or.inr (Or.inr ⟨by omega, by omega, z1, S1, acc1, hrun1, hx1, hT1, msc_fr hM2 (fun k a b => va_ne (by omega)), fun k a b => (va_ne (by omega)).trans (hfrB2 k a b), (va_ne (by decide)).trans (by rw [hw42]; exact hw42z.symm), Or.inr ⟨hz, z2, S2, acc2, hrun2, xt_trans hx1 hx2, hT2, Or.inr ⟨hz2, hzN2, xb_z (by omega), _, _, _, ⟨sg, fs, sn, wt, pl, dp, ho, rfl, hw30, hw31, hw32, hw33, hw34, hw35, hw36, hA⟩⟩⟩⟩)⟩ (by decide) (by decide) d_Md_joins_140
              · skip
                refine xr_iconst C d_Md_joins_135 ?_
                refine xr_goto (tgt := 140) C d_Md_joins_136 (by decide) ?_
                exact xr_zret C E (by omega) ⟨rfl, rfl, _, rfl, Or.inr (Or.inr ⟨by omega, by omega, z1, S1, acc1, hrun1, hx1, hT1, msc_fr hM2 (fun k a b => va_ne (by omega)), fun k a b => (va_ne (by omega)).trans (hfrB2 k a b), (va_ne (by decide)).trans (by rw [hw42]; exact hw42z.symm), Or.inr ⟨hz, z2, S2, acc2, hrun2, xt_trans hx1 hx2, hT2, Or.inr ⟨hz2, hzN2, xb_z (by omega), _, _, _, ⟨sg, fs, sn, wt, pl, dp, ho, rfl, hw30, hw31, hw32, hw33, hw34, hw35, hw36, hA⟩⟩⟩⟩)⟩ (by decide) (by decide) d_Md_joins_140
            · obtain ⟨sg, fs, sn, wt, pl, dp, ho, hw29, hw30, hw31, hw32, hw33, hw34, hw35, hw36, hA⟩ := id hMT3
              refine xr_istore C d_Md_joins_91 (by decide) ?_
              refine xr_aload_n C 0 d_Md_joins_93 rfl rfl ?_
              refine xr_aload_n C 0 d_Md_joins_94 rfl rfl ?_
              refine xr_get (k := 29) C xg_Md_97 hw29 (by decide) rfl d_Md_joins_95 ?_
              refine xb_if_eq (tgt := 105) C d_Md_joins_98 (by decide)  (fun c98 => by exfalso; exact absurd c98 (by decide)) (fun c98 => ?_)
              refine xr_iconst C d_Md_joins_101 ?_
              refine xr_goto (tgt := 106) C d_Md_joins_102 (by decide) ?_
              refine xr_put (k := 29) C xf_Md_86 hw29 (by decide) rfl rfl (Nat.le_of_ble_eq_true rfl) d_Md_joins_106 ?_
              refine xr_aload_n C 0 d_Md_joins_109 rfl rfl ?_
              refine xr_get (k := 29) C xg_Md_97 rfl (by decide) rfl d_Md_joins_110 ?_
              refine xb_if_eq (tgt := 121) C d_Md_joins_113 (by decide)  (fun c113 => by exfalso; exact absurd c113 (by decide)) (fun c113 => ?_)
              refine xr_aload_n C 0 d_Md_joins_116 rfl rfl ?_
              refine xr_iload_n C 3 d_Md_joins_117 rfl rfl ?_
              refine xr_put (k := 29) C xf_Md_90 rfl (by decide) rfl rfl (Nat.le_of_ble_eq_true rfl) d_Md_joins_118 ?_
              refine xr_aload_n C 0 d_Md_joins_121 rfl rfl ?_
              refine xr_get (k := 29) C xg_Md_97 rfl (by decide) rfl d_Md_joins_122 ?_
              refine xb_if_ne (tgt := 139) C d_Md_joins_125 (by decide)  (fun c125 => ?_) (fun c125 => by exfalso; exact absurd c125 (by decide))
              refine xr_iconst C d_Md_joins_139 ?_
              exact xr_zret C E (by omega) ⟨rfl, rfl, _, rfl, Or.inr (Or.inr ⟨by omega, by omega, z1, S1, acc1, hrun1, hx1, hT1, msc_fr hM2 (fun k a b => (va_ne (by omega)).trans (va_ne (by omega))), fun k a b => (va_ne (by omega)).trans ((va_ne (by omega)).trans (hfrB2 k a b)), (va_ne (by decide)).trans ((va_ne (by decide)).trans (by rw [hw42]; exact hw42z.symm)), Or.inr ⟨hz, z2, S2, acc2, hrun2, xt_trans hx1 hx2, hT2, Or.inl ⟨hz2, rfl, _, _, _, ⟨sg, fs, sn, wt, pl, dp, ho, rfl, hw30, hw31, hw32, hw33, hw34, hw35, hw36, ma_cut (S := cut S2 (sN S1)) (n := sN S) hA (by show sN S ≤ sN S1; omega)⟩⟩⟩⟩)⟩ (by decide) (by decide) d_Md_joins_140
          · obtain ⟨sg, fs, sn, wt, pl, dp, ho, hw29, hw30, hw31, hw32, hw33, hw34, hw35, hw36, hA⟩ := id hMT2
            refine xr_istore C d_Md_joins_72 (by decide) ?_
            refine xr_aload_n C 0 d_Md_joins_74 rfl rfl ?_
            refine xr_get (k := 29) C xg_Md_97 hw29 (by decide) rfl d_Md_joins_75 ?_
            refine xb_if_eq (tgt := 85) C d_Md_joins_78 (by decide)  (fun c78 => by exfalso; exact absurd c78 (by decide)) (fun c78 => ?_)
            refine xr_iconst C d_Md_joins_81 ?_
            refine xr_goto (tgt := 91) C d_Md_joins_82 (by decide) ?_
            refine xr_istore C d_Md_joins_91 (by decide) ?_
            refine xr_aload_n C 0 d_Md_joins_93 rfl rfl ?_
            refine xr_aload_n C 0 d_Md_joins_94 rfl rfl ?_
            refine xr_get (k := 29) C xg_Md_97 hw29 (by decide) rfl d_Md_joins_95 ?_
            refine xb_if_eq (tgt := 105) C d_Md_joins_98 (by decide)  (fun c98 => by exfalso; exact absurd c98 (by decide)) (fun c98 => ?_)
            refine xr_iconst C d_Md_joins_101 ?_
            refine xr_goto (tgt := 106) C d_Md_joins_102 (by decide) ?_
            refine xr_put (k := 29) C xf_Md_86 hw29 (by decide) rfl rfl (Nat.le_of_ble_eq_true rfl) d_Md_joins_106 ?_
            refine xr_aload_n C 0 d_Md_joins_109 rfl rfl ?_
            refine xr_get (k := 29) C xg_Md_97 rfl (by decide) rfl d_Md_joins_110 ?_
            refine xb_if_eq (tgt := 121) C d_Md_joins_113 (by decide)  (fun c113 => by exfalso; exact absurd c113 (by decide)) (fun c113 => ?_)
            refine xr_aload_n C 0 d_Md_joins_116 rfl rfl ?_
            refine xr_iload_n C 3 d_Md_joins_117 rfl rfl ?_
            refine xr_put (k := 29) C xf_Md_90 rfl (by decide) rfl rfl (Nat.le_of_ble_eq_true rfl) d_Md_joins_118 ?_
            refine xr_aload_n C 0 d_Md_joins_121 rfl rfl ?_
            refine xr_get (k := 29) C xg_Md_97 rfl (by decide) rfl d_Md_joins_122 ?_
            refine xb_if_ne (tgt := 139) C d_Md_joins_125 (by decide)  (fun c125 => ?_) (fun c125 => by exfalso; exact absurd c125 (by decide))
            refine xr_iconst C d_Md_joins_139 ?_
            exact xr_zret C E (by omega) ⟨rfl, rfl, _, rfl, Or.inr (Or.inr ⟨by omega, by omega, z1, S1, acc1, hrun1, hx1, hT1, msc_fr hM1 (fun k a b => (va_ne (by omega)).trans (va_ne (by omega))), fun k a b => (va_ne (by omega)).trans ((va_ne (by omega)).trans (hfrB1 k a b)), (va_ne (by decide)).trans ((va_ne (by decide)).trans (by rw [hw42]; exact hw42z.symm)), Or.inl ⟨hz, rfl, _, _, _, ⟨sg, fs, sn, wt, pl, dp, ho, rfl, hw30, hw31, hw32, hw33, hw34, hw35, hw36, hA⟩⟩⟩)⟩ (by decide) (by decide) d_Md_joins_140
        · skip
          refine xr_iconst C d_Md_joins_39 ?_
          refine xr_goto (tgt := 44) C d_Md_joins_40 (by decide) ?_
          refine xr_put (k := 29) C xf_Md_86 hw29 (by decide) rfl rfl (Nat.le_of_ble_eq_true rfl) d_Md_joins_44 ?_
          refine xr_aload_n C 0 d_Md_joins_47 rfl rfl ?_
          refine xr_get (k := 29) C xg_Md_86 rfl (by decide) rfl d_Md_joins_48 ?_
          refine xz_if_eq (tgt := 56) C d_Md_joins_51 (by decide) (by omega) (fun c51 => by exfalso; omega) (fun c51 => ?_)
          refine xr_iconst C d_Md_joins_54 ?_
          exact xr_zret C E (by omega) ⟨rfl, rfl, _, rfl, by first | exact Or.inl ⟨by omega, rfl, rfl⟩ | exact Or.inr (Or.inl ⟨by omega, by omega, rfl, rfl⟩)⟩ (by decide) (by decide) d_Md_joins_55
    · skip
      have b14 : ¬ (0 ≤ y ∧ y < (sN S : Int)) := of_decide_eq_false c14
      refine xr_iconst C d_Md_joins_17 ?_
      refine xr_goto (tgt := 44) C d_Md_joins_18 (by decide) ?_
      refine xr_put (k := 29) C xf_Md_86 hw29 (by decide) rfl rfl (Nat.le_of_ble_eq_true rfl) d_Md_joins_44 ?_
      refine xr_aload_n C 0 d_Md_joins_47 rfl rfl ?_
      refine xr_get (k := 29) C xg_Md_86 rfl (by decide) rfl d_Md_joins_48 ?_
      refine xz_if_eq (tgt := 56) C d_Md_joins_51 (by decide) (by omega) (fun c51 => by exfalso; omega) (fun c51 => ?_)
      refine xr_iconst C d_Md_joins_54 ?_
      exact xr_zret C E (by omega) ⟨rfl, rfl, _, rfl, by first | exact Or.inl ⟨by omega, rfl, rfl⟩ | exact Or.inr (Or.inl ⟨by omega, by omega, rfl, rfl⟩)⟩ (by decide) (by decide) d_Md_joins_55
