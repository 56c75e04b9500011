set_option maxHeartbeats 4000000 in
set_option maxRecDepth 100000 in
theorem m_Rn_filled {L : Launch} {D : va_G} {cA : Nat → ClassId} {base : Nat} {ad : Nat → Nat} {S0 : xS} {sp pz lz md : Int} {mo : Bool} {β γ : Nat → Int} (hT0 : Tb S0) (hγ : ∀ h, h < 6 → γ h = β h) : ∀ (d : Nat) {w : Nat → va_E} {S : xS} {x : Int}, Tb S → xt S0 S → CT ad cA w S → w 19 = rnO ad sp pz lz md mo → w 22 = xIA (cA 0) 6 γ → (-1 ≤ x ∧ x < sN S0) → (0 ≤ x → ∀ h, h < 6 → 0 < cnt S0 x.toNat h → 0 ≤ β h ∧ β h < sN S0) → (0 ≤ x → sDp S0 x.toNat + 1 ≤ d) →
    XM L D cA base y_Rn_filled c_Rn_filled 5 (some .int) (xrm (d + 3) 0 0) [.ref (ad 19), .int (zI x)] 56 ad w (xRet 56 ad (fun z w' => ∃ S' : xS, (z, S') = bldI S0 β x S ∧ CT ad cA w' S' ∧ (∀ k, (k < 1 ∨ 11 < k) → w' k = w k))) xF := by
  intro d
  induction d with
  | zero =>
    intro w S x hT hxt hCT hw19 hw22 hx hβ hd
    have hx0 : x < 0 := by
      rcases Int.lt_or_le x 0 with q | q
      · exact q
      · have := hd q
        have := (hT0.2.1 x.toNat (by omega)).2.2.2.2.2
        omega
    have hN := hT0.1
    refine xm_of (by decide +kernel) (by simp [Value.category]) (Nat.le_of_ble_eq_true rfl) (fun G C E _ => ?_)
    refine xr_iload_n C 1 d_Rn_filled_0 rfl rfl ?_
    refine xz_if_lt (tgt := 16) C d_Rn_filled_1 (by decide) (by omega) (fun c1 => ?_) (fun c1 => by exfalso; omega)
    refine xr_iload_n C 1 d_Rn_filled_16 rfl rfl ?_
    exact xr_iret C E ⟨rfl, rfl, _, rfl, S, by unfold bldI; rw [if_pos (by omega), show x = -1 by omega], hCT, fun k _ => rfl⟩ (Nat.le_of_ble_eq_true rfl) (Nat.le_of_ble_eq_true rfl) d_Rn_filled_17
  | succ d ih =>
    intro w S x hT hxt hCT hw19 hw22 hx hβ hd
    have hN0 := hT0.1
    have hN := hT.1
    have hNN := hxt.1
    obtain ⟨mk, fs, sn, wt, pl, dp, ho, hc, nw, od, hw1, hw2, hw3, hw4, hw5, hw6, hw7, hw8, hw9, hw10, hw11, hC⟩ := id hCT
    refine xm_of (by decide +kernel) (by simp [Value.category]) (Nat.le_of_ble_eq_true rfl) (fun G C E _ => ?_)
    refine xr_iload_n C 1 d_Rn_filled_0 rfl rfl ?_
    refine xz_if_lt (tgt := 16) C d_Rn_filled_1 (by decide) (by omega) (fun c1 => ?_) (fun c1 => ?_)
    · skip
      refine xr_iload_n C 1 d_Rn_filled_16 rfl rfl ?_
      exact xr_iret C E (by first | exact ⟨rfl, rfl, _, rfl, S, by unfold bldI; rw [if_pos (by omega), show x = -1 by omega], hCT, fun k _ => rfl⟩ | exact ⟨rfl, rfl, _, rfl, S, by unfold bldI; rw [if_neg (by omega), Int.toNat_natCast, bld_plain hT0 x S hx0 hT hxt (by omega)], hCT, fun k _ => rfl⟩) (Nat.le_of_ble_eq_true rfl) (Nat.le_of_ble_eq_true rfl) d_Rn_filled_17
    · skip
      obtain ⟨x, rfl⟩ : ∃ q : Nat, x = (q : Int) := ⟨x.toNat, by omega⟩
      rw [Int.toNat_natCast] at *
      have hx0 : x < sN S0 := by omega
      have hxN : x < sN S := by omega
      obtain ⟨m1, m2, m3, -, -, -, m7⟩ := hC.1 x hxN
      obtain ⟨t1, t2, t3, -, -, -, t7⟩ := hxt.2 x hx0
      rw [t1] at m1
      have r1 := (hC.2.2.1 x).1
      have r7 := (hC.2.2.1 x).2.2.2.2.2.2.1
      have sx := (hT0.2.1 x hx0).1
      have ha := shp_a sx
      have hux := um_eq sx
      have hd9 := hd (by omega)
      have hdc := dp_child hT0 hx0
      have hβ := hβ (by omega)
      refine xr_aload_n C 0 d_Rn_filled_4 rfl rfl ?_
      refine xr_get (k := 19) C xg_Rn_45 hw19 (by decide) rfl d_Rn_filled_5 ?_
      refine xr_get (k := 1) C xg_Rn_116 hw1 (by decide) rfl d_Rn_filled_8 ?_
      refine xr_iload_n C 1 d_Rn_filled_11 rfl rfl ?_
      refine xj_iald (k := 8) C (x) (by omega) hw8 (by decide) (by omega) (by decide) d_Rn_filled_12 ?_
      refine xz_if_ne (tgt := 18) C d_Rn_filled_13 (by decide) (by omega) (fun c13 => ?_) (fun c13 => ?_)
      · skip
        refine xr_aload_n C 0 d_Rn_filled_18 rfl rfl ?_
        refine xr_get (k := 19) C xg_Rn_45 hw19 (by decide) rfl d_Rn_filled_19 ?_
        refine xr_get (k := 1) C xg_Rn_107 hw1 (by decide) rfl d_Rn_filled_22 ?_
        refine xr_iload_n C 1 d_Rn_filled_25 rfl rfl ?_
        refine xj_iald (k := 2) C (x) (by omega) hw2 (by decide) (by omega) (by decide) d_Rn_filled_26 ?_
        refine xr_istore_n C 2 d_Rn_filled_27 rfl (by decide) ?_
        refine xr_iload_n C 2 d_Rn_filled_28 rfl rfl ?_
        refine xr_bipush C d_Rn_filled_29 (by decide) ?_
        refine xz_icmp_lt (tgt := 44) C d_Rn_filled_31 (by decide) (by omega) (by omega) (fun c31 => ?_) (fun c31 => ?_)
        · skip
          have hnx : sSg S0 x < 100 := by
            rcases Int.lt_or_le (sSg S0 x) 100 with q | q
            · exact q
            · have := leaf_plain hT0 hx0 q (by unfold shp at sx; omega)
              omega
          have hcn := cnt_node hT0 hx0 hnx
          have hf0 : 0 ≤ sFs S0 x := by unfold shp at sx; omega
          have hbf : ∀ h, h < 6 → 0 < cnt S0 (sFs S0 x).toNat h → 0 ≤ β h ∧ β h < sN S0 := fun h h6 hc9 => hβ h h6 (by
            rw [hcn h]
            split
            · have := (cnt_in hT0 (j := (sSn S0 x).toNat) (by unfold shp at sx; omega) h).1
              omega
            · omega)
          refine xr_aload_n C 0 d_Rn_filled_44 rfl rfl ?_
          refine xr_aload_n C 0 d_Rn_filled_45 rfl rfl ?_
          refine xr_get (k := 19) C xg_Rn_45 hw19 (by decide) rfl d_Rn_filled_46 ?_
          refine xr_get (k := 1) C xg_Rn_89 hw1 (by decide) rfl d_Rn_filled_49 ?_
          refine xr_iload_n C 1 d_Rn_filled_52 rfl rfl ?_
          refine xj_iald (k := 3) C (x) (by omega) hw3 (by decide) (by omega) (by decide) d_Rn_filled_53 ?_
          refine xr_callV (k9 := 19) C (ih (x := fs x) hT hxt hCT hw19 hw22 (by omega) (fun q => by rw [m2, t2]; exact hbf) (fun q => by rw [m2, t2]; have := hdc.1 hnx; omega)) xm_Rn_129 x2_Rn_filled hw19 (by decide) rfl ⟨by show (d + 3) + 1 ≤ (d + 1) + 3; omega, by show 8 + (5 + 11) + 40 * ((d + 3)) ≤ 40 * ((d + 1) + 3); omega⟩ ⟨Nat.le_of_ble_eq_true rfl, Nat.le_of_ble_eq_true rfl⟩ (Nat.le_of_ble_eq_true rfl) rfl d_Rn_filled_54 (fun En n9 ad9 w9 hx9 => hx9.elim) (fun v n9 ad9 w9 hp => ?_)
          obtain ⟨rfl, rfl, z1, rfl, S1, e1, hCT1, hfr1⟩ := hp
          rw [m2, t2] at e1
          have e1 : (z1, S1) = bld S0 β (sFs S0 x).toNat S := by rw [e1]; unfold bldI; rw [if_neg (by omega)]
          obtain ⟨hT1, hx1, hz1, hz1N⟩ := bld_ok hT0 (sFs S0 x).toNat S z1 S1 (by omega) hT hxt hbf e1
          have hN1 := hT1.1
          have hNN1 := hx1.1
          have hw19 := (hfr1 19 (by omega)).trans hw19
          have hw22 := (hfr1 22 (by omega)).trans hw22
          obtain ⟨mk, fs, sn, wt, pl, dp, ho, hc, nw, od, hw1, hw2, hw3, hw4, hw5, hw6, hw7, hw8, hw9, hw10, hw11, hC⟩ := id hCT1
          obtain ⟨-, -, n3, -⟩ := hC.1 x (by omega)
          have n3 := n3.trans (hx1.2 x hxN).2.2.1
          show XW _ _ _ _ _ _ 57 _ (_ :: _)
          refine xr_istore_n C 3 d_Rn_filled_57 rfl (by decide) ?_
          refine xr_iload_n C 3 d_Rn_filled_58 rfl rfl ?_
          refine xz_if_ge (tgt := 66) C d_Rn_filled_59 (by decide) (by omega) (fun c59 => ?_) (fun c59 => ?_)
          · skip
            refine xr_aload_n C 0 d_Rn_filled_66 rfl rfl ?_
            refine xr_aload_n C 0 d_Rn_filled_67 rfl rfl ?_
            refine xr_get (k := 19) C xg_Rn_45 hw19 (by decide) rfl d_Rn_filled_68 ?_
            refine xr_get (k := 1) C xg_Rn_94 hw1 (by decide) rfl d_Rn_filled_71 ?_
            refine xr_iload_n C 1 d_Rn_filled_74 rfl rfl ?_
            refine xj_iald (k := 4) C (x) (by omega) hw4 (by decide) (by omega) (by decide) d_Rn_filled_75 ?_
            refine xr_callV (k9 := 19) C (ih (x := sn x) hT1 (xt_trans hxt hx1) hCT1 hw19 hw22 (by omega) (fun q => by
                      rw [n3, t3] at q ⊢
                      have h6 : 6 ≤ sSg S0 x := by unfold shp at sx; omega
                      exact fun h hh6 hc9 => hβ h hh6 (by
                        rw [hcn h, if_pos h6]
                        have := (cnt_in hT0 (j := (sFs S0 x).toNat) (by omega) h).1
                        omega)) (fun q => by rw [n3, t3] at q ⊢; have := hdc.2 (by unfold shp at sx; omega) hnx; omega)) xm_Rn_129 x2_Rn_filled hw19 (by decide) rfl ⟨by show (d + 3) + 1 ≤ (d + 1) + 3; omega, by show 8 + (5 + 11) + 40 * ((d + 3)) ≤ 40 * ((d + 1) + 3); omega⟩ ⟨Nat.le_of_ble_eq_true rfl, Nat.le_of_ble_eq_true rfl⟩ (Nat.le_of_ble_eq_true rfl) rfl d_Rn_filled_76 (fun En n9 ad9 w9 hx9 => hx9.elim) (fun v n9 ad9 w9 hp => ?_)
            obtain ⟨rfl, rfl, z2, rfl, S2, e2, hCT2, hfr2⟩ := hp
            rw [n3, t3] at e2
            have hw19 := (hfr2 19 (by omega)).trans hw19
            obtain ⟨mk, fs, sn, wt, pl, dp, ho, hc, nw, od, hw1, hw2, hw3, hw4, hw5, hw6, hw7, hw8, hw9, hw10, hw11, hC⟩ := id hCT2
            have hfin : Tb S2 ∧ xt S S2 ∧ -1 ≤ z2 ∧ z2 < sN S2 ∧ xt S1 S2 := by
              by_cases q : sSn S0 x < 0
              · unfold bldI at e2
                rw [if_pos q] at e2
                cases e2
                exact ⟨hT1, hx1, by omega, by omega, xt_refl _⟩
              · have h6 : 6 ≤ sSg S0 x := by unfold shp at sx; omega
                unfold bldI at e2
                rw [if_neg q] at e2
                obtain ⟨a1, a2, a3, a4⟩ := bld_ok hT0 (sSn S0 x).toNat S1 z2 S2 (by omega) hT1 (xt_trans hxt hx1) (fun h hh6 hc9 => hβ h hh6 (by
                  rw [hcn h, if_pos h6]
                  have := (cnt_in hT0 (j := (sFs S0 x).toNat) (by omega) h).1
                  omega)) e2
                exact ⟨a1, xt_trans hx1 a2, a3, a4, a2⟩
            obtain ⟨hT2, hx2, hz2, hz2N, hx12⟩ := hfin
            have hN2 := hT2.1
            have hNN2 := hx12.1
            obtain ⟨-, -, k3, -⟩ := hC.1 x (by omega)
            have k3 := (k3.trans (hx2.2 x hxN).2.2.1).trans t3
            have hfr12 : ∀ k, (k < 1 ∨ 11 < k) → w9 k = w k := fun k hk => (hfr2 k hk).trans (hfr1 k hk)
            show XW _ _ _ _ _ _ 79 _ (_ :: _)
            refine xr_istore C d_Rn_filled_79 (by decide) ?_
            refine xr_iload_n C 3 d_Rn_filled_81 rfl rfl ?_
            refine xz_if_lt (tgt := 102) C d_Rn_filled_82 (by decide) (by omega) (fun c82 => by exfalso; omega) (fun c82 => ?_)
            refine xr_iload C d_Rn_filled_85 rfl ?_
            refine xz_if_ge (tgt := 104) C d_Rn_filled_87 (by decide) (by omega) (fun c87 => ?_) (fun c87 => ?_)
            · skip
              refine xr_aload_n C 0 d_Rn_filled_104 rfl rfl ?_
              refine xr_get (k := 19) C xg_Rn_45 hw19 (by decide) rfl d_Rn_filled_105 ?_
              refine xr_iload_n C 2 d_Rn_filled_108 rfl rfl ?_
              refine xr_eqz (y := um (sSg S0 x)) (by omega) ?_
              refine xr_iload_n C 3 d_Rn_filled_109 rfl rfl ?_
              refine xr_iload C d_Rn_filled_110 rfl ?_
              have hsh : shp (sSg S0 x) z1 z2 (sN S2) := by
                unfold shp at sx ⊢
                by_cases q : sSn S0 x < 0
                · unfold bldI at e2
                  rw [if_pos q] at e2
                  cases e2
                  omega
                · omega
              refine xr_callV (k9 := 1) C (m_Tr_numberOf (s := sSg S0 x) (a := z1) (b := z2) hCT2 hT2 hsh) xm_Rn_132 x2_Tr_numberOf hw1 (by decide) rfl ⟨by show 3 + 1 ≤ (d + 1) + 3; omega, by show 8 + (7 + 11) + 40 * (3) ≤ 40 * ((d + 1) + 3); omega⟩ ⟨Nat.le_of_ble_eq_true rfl, Nat.le_of_ble_eq_true rfl⟩ (Nat.le_of_ble_eq_true rfl) rfl d_Rn_filled_112 (fun En n9 ad9 w9 hx9 => hx9.elim) (fun v n9 ad9 w9 hp => ?_)
              obtain ⟨rfl, rfl, z3, rfl, S3, e3, hCT3, hfr3⟩ := hp
              show XW _ _ _ _ _ _ 115 _ (_ :: _)
              exact xr_iret C E ⟨rfl, rfl, _, rfl, S3, by
                rw [e3]
                unfold bldI at e2 ⊢
                rw [if_neg (by omega), Int.toNat_natCast]
                by_cases q : sSn S0 x < 0
                · rw [if_pos q] at e2
                  cases e2
                  rw [bld_1 (by unfold shp at sx; omega) (by omega) e1 (by omega)]
                · rw [if_neg q] at e2
                  rw [bld_2 (by unfold shp at sx; omega) hnx (by omega) (by omega) e1 (by omega) e2 (by omega)], hCT3, fun k hk => (hfr3 k hk).trans (hfr12 k hk)⟩ (Nat.le_of_ble_eq_true rfl) (Nat.le_of_ble_eq_true rfl) d_Rn_filled_115
            · skip
              refine xr_aload_n C 0 d_Rn_filled_90 rfl rfl ?_
              refine xr_get (k := 19) C xg_Rn_45 hw19 (by decide) rfl d_Rn_filled_91 ?_
              refine xr_get (k := 1) C xg_Rn_94 hw1 (by decide) rfl d_Rn_filled_94 ?_
              refine xr_iload_n C 1 d_Rn_filled_97 rfl rfl ?_
              refine xj_iald (k := 4) C (x) (by omega) hw4 (by decide) (by omega) (by decide) d_Rn_filled_98 ?_
              refine xz_if_lt (tgt := 104) C d_Rn_filled_99 (by decide) (by omega) (fun c99 => ?_) (fun c99 => ?_)
              · skip
                refine xr_aload_n C 0 d_Rn_filled_104 rfl rfl ?_
                refine xr_get (k := 19) C xg_Rn_45 hw19 (by decide) rfl d_Rn_filled_105 ?_
                refine xr_iload_n C 2 d_Rn_filled_108 rfl rfl ?_
                refine xr_eqz (y := um (sSg S0 x)) (by omega) ?_
                refine xr_iload_n C 3 d_Rn_filled_109 rfl rfl ?_
                refine xr_iload C d_Rn_filled_110 rfl ?_
                have hsh : shp (sSg S0 x) z1 z2 (sN S2) := by
                  unfold shp at sx ⊢
                  by_cases q : sSn S0 x < 0
                  · unfold bldI at e2
                    rw [if_pos q] at e2
                    cases e2
                    omega
                  · omega
                refine xr_callV (k9 := 1) C (m_Tr_numberOf (s := sSg S0 x) (a := z1) (b := z2) hCT2 hT2 hsh) xm_Rn_132 x2_Tr_numberOf hw1 (by decide) rfl ⟨by show 3 + 1 ≤ (d + 1) + 3; omega, by show 8 + (7 + 11) + 40 * (3) ≤ 40 * ((d + 1) + 3); omega⟩ ⟨Nat.le_of_ble_eq_true rfl, Nat.le_of_ble_eq_true rfl⟩ (Nat.le_of_ble_eq_true rfl) rfl d_Rn_filled_112 (fun En n9 ad9 w9 hx9 => hx9.elim) (fun v n9 ad9 w9 hp => ?_)
                obtain ⟨rfl, rfl, z3, rfl, S3, e3, hCT3, hfr3⟩ := hp
                show XW _ _ _ _ _ _ 115 _ (_ :: _)
                exact xr_iret C E ⟨rfl, rfl, _, rfl, S3, by
                  rw [e3]
                  unfold bldI at e2 ⊢
                  rw [if_neg (by omega), Int.toNat_natCast]
                  by_cases q : sSn S0 x < 0
                  · rw [if_pos q] at e2
                    cases e2
                    rw [bld_1 (by unfold shp at sx; omega) (by omega) e1 (by omega)]
                  · rw [if_neg q] at e2
                    rw [bld_2 (by unfold shp at sx; omega) hnx (by omega) (by omega) e1 (by omega) e2 (by omega)], hCT3, fun k hk => (hfr3 k hk).trans (hfr12 k hk)⟩ (Nat.le_of_ble_eq_true rfl) (Nat.le_of_ble_eq_true rfl) d_Rn_filled_115
              · skip
                refine xr_iconst C d_Rn_filled_102 ?_
                exact xr_iret C E ⟨rfl, rfl, _, rfl, S2, by
                  have h6 : 6 ≤ sSg S0 x := by unfold shp at sx; omega
                  unfold bldI at e2 ⊢
                  rw [if_neg (by omega)] at e2 ⊢
                  rw [Int.toNat_natCast, bld_2f h6 hnx (by omega) (by omega) e1 (by omega) e2 (by omega)], hCT2, hfr12⟩ (Nat.le_of_ble_eq_true rfl) (Nat.le_of_ble_eq_true rfl) d_Rn_filled_103
          · skip
            refine xr_iconst C d_Rn_filled_62 ?_
            refine xr_goto (tgt := 79) C d_Rn_filled_63 (by decide) ?_
            refine xr_istore C d_Rn_filled_79 (by decide) ?_
            refine xr_iload_n C 3 d_Rn_filled_81 rfl rfl ?_
            refine xz_if_lt (tgt := 102) C d_Rn_filled_82 (by decide) (by omega) (fun c82 => ?_) (fun c82 => by exfalso; omega)
            refine xr_iconst C d_Rn_filled_102 ?_
            exact xr_iret C E ⟨rfl, rfl, _, rfl, S1, by
              unfold bldI
              rw [if_neg (by omega), Int.toNat_natCast, bld_f hnx (by omega) e1 (by omega)], hCT1, hfr1⟩ (Nat.le_of_ble_eq_true rfl) (Nat.le_of_ble_eq_true rfl) d_Rn_filled_103
        · skip
          have hhx : 200 ≤ sSg S0 x := by unfold shp at sx; omega
          refine xr_aload_n C 0 d_Rn_filled_34 rfl rfl ?_
          refine xr_get (k := 19) C xg_Rn_19 hw19 (by decide) rfl d_Rn_filled_35 ?_
          refine xr_iload_n C 2 d_Rn_filled_38 rfl rfl ?_
          refine xr_bipush C d_Rn_filled_39 (by decide) ?_
          refine xz_isub C d_Rn_filled_41 ?_
          have hsl : sSg S0 x < 206 := by unfold shp at sx; omega
          refine xj_iald (k := 22) C ((sSg S0 x - 200).toNat) (by omega) hw22 (by decide) (by omega) (by decide) d_Rn_filled_42 ?_
          exact xr_iret C E ⟨rfl, rfl, _, rfl, S, by unfold bldI; rw [if_neg (by omega), Int.toNat_natCast, bld_h hhx, hγ _ (by unfold shp at sx; omega)], hCT, fun k _ => rfl⟩ (Nat.le_of_ble_eq_true rfl) (Nat.le_of_ble_eq_true rfl) d_Rn_filled_43
      · skip
        refine xr_iload_n C 1 d_Rn_filled_16 rfl rfl ?_
        exact xr_iret C E (by first | exact ⟨rfl, rfl, _, rfl, S, by unfold bldI; rw [if_pos (by omega), show x = -1 by omega], hCT, fun k _ => rfl⟩ | exact ⟨rfl, rfl, _, rfl, S, by unfold bldI; rw [if_neg (by omega), Int.toNat_natCast, bld_plain hT0 x S hx0 hT hxt (by omega)], hCT, fun k _ => rfl⟩) (Nat.le_of_ble_eq_true rfl) (Nat.le_of_ble_eq_true rfl) d_Rn_filled_17
theorem FN_xt {S S' : xS} {n : Nat} {rl : Nat → Int} {us : Nat → Bool} {fo : Nat → Int} (hT : Tb S) (hx : xt S S') (hrl : ∀ r, r < n → 0 ≤ rl r ∧ rl r < sN S) (h : FN S (lowR S n rl us) fo) (hN : sN S' ≤ 300) : FN S' (lowR S' n rl us) fo := by
  have e := xt_fn (low := lowR S n rl us) (low' := lowR S' n rl us) hT hx (fun t ht => xt_low hT hx hrl ht)
  have hNN := hx.1
  refine ⟨fun j hj => ?_, fun j hj h2 => ?_⟩
  · rcases h.1 j hj with q | ⟨q1, q2⟩
    · exact Or.inl q
    · exact Or.inr ⟨by omega, by rw [e j q1]; exact q2⟩
  · have hjS : j < sN S := by
      rcases h.1 j (by omega) with q | ⟨q1, q2⟩
      · omega
      · exact q1
    have ha := shp_a (hT.2.1 j hjS).1
    obtain ⟨a, b⟩ := h.2 j hjS h2
    obtain ⟨-, x2, x3, -⟩ := hx.2 j hjS
    rw [x2, x3]
    by_cases q : (sFs S j).toNat < sN S
    · exact ⟨a, fun r => b (by rw [← e _ q]; exact r)⟩
    · omega
set_option maxHeartbeats 4000000 in
set_option maxRecDepth 100000 in
theorem m_Rn_step {L : Launch} {D : va_G} {cA : Nat → ClassId} {base : Nat} {ad : Nat → Nat} {w : Nat → va_E} {S : xS} (hCT : CT ad cA w S) (hT : Tb S) {sp pz lz md : Int} {mo : Bool} (hw19 : w 19 = rnO ad sp pz lz md mo) {n : Nat} {rl rr al : Nat → Int} {us : Nat → Bool} (hn : n ≤ 16) (hw12 : w 12 = ruO ad (n : Int)) (hw13 : w 13 = xIA (cA 0) 16 rl) (hw14 : w 14 = xIA (cA 0) 16 rr) (hw20 : w 20 = xIA (cA 1) 16 al) (hal : ∀ r, r < n → al r = xb (us r)) (hR : RG S n rl rr) {fo β ar is : Nat → Int} (hw21 : w 21 = xIA (cA 0) 300 fo) (hF : FN S (lowR S n rl us) fo) (hw22 : w 22 = xIA (cA 0) 6 β) (hβ : ∀ h, -1 ≤ β h ∧ β h < 300) (hw23 : w 23 = xIA (cA 0) 30 ar) (hw24 : w 24 = xIA (cA 1) 30 is) {t : Nat} (ht : t < sN S) (h3 : fo t ≠ -3) (hcs9 : fnS S (lowR S n rl us) t ≠ -1) : XM L D cA base y_Rn_step c_Rn_step 8 (some .int) (xrm 67 0 0) [.ref (ad 19), .int (zI (t : Int))] 56 ad w (xRet 56 ad (fun z w' => ∃ (S' : xS) (fo' γ ar' is' : Nat → Int), (z, S') = stp S n rl rr us t ∧ CT ad cA w' S' ∧ w' 19 = rnO ad ((skT S n rl us t).2.1 : Int) ((skT S n rl us t).2.2 : Int) ((skT S n rl us t).1.length : Int) md mo ∧ w' 21 = xIA (cA 0) 300 fo' ∧ FN S (lowR S n rl us) fo' ∧ fo' (skT S n rl us t).2.1 = (ruT S n rl us t : Int) ∧ w' 22 = xIA (cA 0) 6 γ ∧ (∀ h, -1 ≤ γ h ∧ γ h < 300) ∧ w' 23 = xIA (cA 0) 30 ar' ∧ w' 24 = xIA (cA 1) 30 is' ∧ (∀ k, (k < 1 ∨ 11 < k) → k ≠ 19 → k ≠ 21 → k ≠ 22 → k ≠ 23 → k ≠ 24 → w' k = w k))) xF := by
  refine xm_of (by decide +kernel) (by simp [Value.category]) (Nat.le_of_ble_eq_true rfl) (fun G C E _ => ?_)
  obtain ⟨mk, fs, sn, wt, pl, dp, ho, hc, nw, od, hw1, hw2, hw3, hw4, hw5, hw6, hw7, hw8, hw9, hw10, hw11, hC⟩ := id hCT
  have hN := hT.1
  have lp : ∀ (fo1 γ ar1 is1 : Nat → Int), FN S (lowR S n rl us) fo1 → fo1 (skT S n rl us t).2.1 = (ruT S n rl us t : Int) → (∀ h, -1 ≤ γ h ∧ γ h < 300) → ∀ (q : List (Nat × Bool × Nat)) (x pos : Nat) (S1 : xS) (v : Int) (w1 : Nat → va_E) (lv : Nat → Option Value), PT S t q x pos → Tb S1 → xt S S1 → CT ad cA w1 S1 → -1 ≤ v → v < sN S1 → (0 ≤ v → upP S q v S1 = stp S n rl rr us t) → (v < 0 → (v, S1) = stp S n rl rr us t) → w1 19 = rnO ad ((skT S n rl us t).2.1 : Int) ((skT S n rl us t).2.2 : Int) ((skT S n rl us t).1.length : Int) md mo → w1 21 = xIA (cA 0) 300 fo1 → w1 22 = xIA (cA 0) 6 γ → w1 23 = xIA (cA 0) 30 ar1 → w1 24 = xIA (cA 1) 30 is1 → AR ar1 is1 q → (∀ k, (k < 1 ∨ 11 < k) → k ≠ 19 → k ≠ 21 → k ≠ 22 → k ≠ 23 → k ≠ 24 → w1 k = w k) → lv 0 = some (.ref (ad 19)) → lv 3 = some (.int (zI v)) → lv 4 = some (.int (zI ((q.length : Int) - 1))) → XW G 56 ad w1 0 0 63 lv [] := by
    intro fo1 γ ar1 is1 hF1 hfx hγr q
    induction q with
    | nil =>
      intro x pos S1 v w1 lv hPT hT1 hx1 hCT1 hv hvN hR9 hL9 hw19 hw21 hw22 hw23 hw24 hAR hfr hq0 hq3 hq4
      have hq4 : lv 4 = some (.int (zI (-1))) := hq4
      refine xr_iload C d_Rn_step_63 hq4 ?_
      refine xz_if_lt (tgt := 161) C d_Rn_step_65 (by decide) (by omega) (fun c65 => ?_) (fun c65 => by exfalso; omega)
      refine xr_iload_n C 3 d_Rn_step_161 rfl hq3 ?_
      exact xr_iret C E ⟨rfl, rfl, _, rfl, S1, fo1, γ, ar1, is1, by
        by_cases q : 0 ≤ v
        · exact hR9 q
        · exact hL9 (by omega), hCT1, hw19, hw21, hF1, hfx, hw22, hγr, hw23, hw24, hfr⟩ (by decide) (by decide) d_Rn_step_162
    | cons a q ih =>
      obtain ⟨y, b, k⟩ := a
      intro x pos S1 v w1 lv hPT hT1 hx1 hCT1 hv hvN hR9 hL9 hw19 hw21 hw22 hw23 hw24 hAR hfr hq0 hq3 hq4
      obtain ⟨mk, fs, sn, wt, pl, dp, ho, hc, nw, od, hw1, hw2, hw3, hw4, hw5, hw6, hw7, hw8, hw9, hw10, hw11, hC⟩ := id hCT1
      have hz4 : lv 4 = some (.int (zI (q.length : Int))) := by rw [hq4, List.length_cons]; congr 3; omega
      have hy := (PT_lt hT ht q y k hPT.1).1
      have hlen := (PT_lt hT ht q y k hPT.1).2
      have hdt := (hT.2.1 t ht).2.2.2.2.2
      have hdy := (hT.2.1 y hy).2.2.2.2.2
      have hNN := hx1.1
      have hN1 := hT1.1
      obtain ⟨m1, m2, m3, -⟩ := hC.1 y (by omega)
      obtain ⟨t1, t2, t3, -⟩ := hx1.2 y hy
      have sy := (hT.2.1 y hy).1
      have hyd : 1 ≤ sDp S y := by
        have h9 := (dp_child hT hy).1 hPT.2.1
        have := (hT.2.1 (sFs S y).toNat (by unfold shp at sy; omega)).2.2.2.2.2
        omega
      have hr1 := (hC.2.2.1 y).1
      cases b with
      | false =>
        refine xr_iload C d_Rn_step_63 hz4 ?_
        refine xz_if_lt (tgt := 161) C d_Rn_step_65 (by decide) (by omega) (fun c65 => by exfalso; omega) (fun c65 => ?_)
        refine xr_iload_n C 3 d_Rn_step_68 rfl hq3 ?_
        refine xz_if_lt (tgt := 161) C d_Rn_step_69 (by decide) (by omega) (fun c69 => ?_) (fun c69 => ?_)
        · skip
          refine xr_iload_n C 3 d_Rn_step_161 rfl hq3 ?_
          exact xr_iret C E ⟨rfl, rfl, _, rfl, S1, fo1, γ, ar1, is1, hL9 (by omega), hCT1, hw19, hw21, hF1, hfx, hw22, hγr, hw23, hw24, hfr⟩ (by decide) (by decide) d_Rn_step_162
        · skip
          have hsh := PT_shp hT hx1 ht hPT (t := v) (by omega)
          simp only [Bool.false_eq_true, if_false, if_true] at hsh
          refine xr_aload_n C 0 d_Rn_step_72 rfl hq0 ?_
          refine xr_get (k := 19) C xg_Rn_32 hw19 (by decide) rfl d_Rn_step_73 ?_
          refine xr_iload C d_Rn_step_76 hz4 ?_
          refine xj_iald (k := 23) C (q.length) (by omega) hw23 (by decide) (by omega) (by decide) d_Rn_step_78 ?_
          refine xr_eqz (y := (y : Int)) hAR.1 ?_
          refine xr_istore C d_Rn_step_79 (by decide) ?_
          refine xr_aload_n C 0 d_Rn_step_81 rfl hq0 ?_
          refine xr_get (k := 19) C xg_Rn_35 hw19 (by decide) rfl d_Rn_step_82 ?_
          refine xr_iload C d_Rn_step_85 hz4 ?_
          refine xj_zald (k := 24) C (q.length) (by omega) hw24 (by decide) (by omega) (by decide) d_Rn_step_87 ?_
          refine xr_eqz (y := 0) hAR.2.1 ?_
          refine xz_if_eq (tgt := 104) C d_Rn_step_88 (by decide) (by omega) (fun c88 => ?_) (fun c88 => by exfalso; omega)
          refine xr_iload_n C 3 d_Rn_step_104 rfl hq3 ?_
          refine xr_istore C d_Rn_step_105 (by decide) ?_
          refine xr_aload_n C 0 d_Rn_step_107 rfl hq0 ?_
          refine xr_get (k := 19) C xg_Rn_35 hw19 (by decide) rfl d_Rn_step_108 ?_
          refine xr_iload C d_Rn_step_111 hz4 ?_
          refine xj_zald (k := 24) C (q.length) (by omega) hw24 (by decide) (by omega) (by decide) d_Rn_step_113 ?_
          refine xr_eqz (y := 0) hAR.2.1 ?_
          refine xz_if_eq (tgt := 121) C d_Rn_step_114 (by decide) (by omega) (fun c114 => ?_) (fun c114 => by exfalso; omega)
          refine xr_aload_n C 0 d_Rn_step_121 rfl hq0 ?_
          refine xr_get (k := 19) C xg_Rn_45 hw19 (by decide) rfl d_Rn_step_122 ?_
          refine xr_get (k := 1) C xg_Rn_94 hw1 (by decide) rfl d_Rn_step_125 ?_
          refine xr_iload C d_Rn_step_128 rfl ?_
          refine xj_iald (k := 4) C (y) (by omega) hw4 (by decide) (by omega) (by decide) d_Rn_step_130 ?_
          refine xr_eqz (y := sSn S y) (by omega) ?_
          refine xr_istore C d_Rn_step_131 (by decide) ?_
          refine xr_aload_n C 0 d_Rn_step_133 rfl hq0 ?_
          refine xr_get (k := 19) C xg_Rn_45 hw19 (by decide) rfl d_Rn_step_134 ?_
          refine xr_aload_n C 0 d_Rn_step_137 rfl hq0 ?_
          refine xr_get (k := 19) C xg_Rn_45 hw19 (by decide) rfl d_Rn_step_138 ?_
          refine xr_get (k := 1) C xg_Rn_107 hw1 (by decide) rfl d_Rn_step_141 ?_
          refine xr_iload C d_Rn_step_144 rfl ?_
          refine xj_iald (k := 2) C (y) (by omega) hw2 (by decide) (by omega) (by decide) d_Rn_step_146 ?_
          refine xr_eqz (y := um (sSg S y)) (by rw [m1, t1]) ?_
          refine xr_iload C d_Rn_step_147 rfl ?_
          refine xr_iload C d_Rn_step_149 rfl ?_
          refine xr_callV (k9 := 1) C (m_Tr_numberOf (s := sSg S y) (a := v) (b := sSn S y) hCT1 hT1 hsh) xm_Rn_132 x2_Tr_numberOf hw1 (by decide) rfl (by decide) (by decide) (Nat.le_of_ble_eq_true rfl) rfl d_Rn_step_151 (fun En n9 ad9 w9 hx9 => hx9.elim) (fun v n9 ad9 w9 hp => ?_)
          obtain ⟨rfl, rfl, z, rfl, S2, e2, hCT2, hfr2⟩ := hp
          obtain ⟨hT2, hz2, hz2N, -⟩ := mkT_pos hT1 hsh e2
          have e9 : (z, S2) = mkT S1 (sSg S y) (if false then sFs S y else v) (if false then v else sSn S y) := by simpa using e2
          show XW _ _ _ _ _ _ 154 _ (_ :: _)
          refine xr_istore_n C 3 d_Rn_step_154 rfl (by decide) ?_
          refine xr_iinc C d_Rn_step_155 (by decide) hz4 ?_
          refine xr_goto (tgt := 63) C d_Rn_step_158 (by decide) ?_
          exact ih y k S2 z _ _ hPT.1 hT2 (xt_trans hx1 (mkT_xt e2)) hCT2 hz2 hz2N (fun g => by rw [← up_g e9 (by omega)]; exact hR9 (by omega)) (fun g => by rw [← hR9 (by omega), up_f e9 g, show z = -1 by omega]) ((hfr2 19 (by omega)).trans hw19) ((hfr2 21 (by omega)).trans hw21) ((hfr2 22 (by omega)).trans hw22) ((hfr2 23 (by omega)).trans hw23) ((hfr2 24 (by omega)).trans hw24) hAR.2.2 (fun k a b c d e f => (hfr2 k a).trans (hfr k a b c d e f)) hq0 rfl rfl
      | true =>
        refine xr_iload C d_Rn_step_63 hz4 ?_
        refine xz_if_lt (tgt := 161) C d_Rn_step_65 (by decide) (by omega) (fun c65 => by exfalso; omega) (fun c65 => ?_)
        refine xr_iload_n C 3 d_Rn_step_68 rfl hq3 ?_
        refine xz_if_lt (tgt := 161) C d_Rn_step_69 (by decide) (by omega) (fun c69 => ?_) (fun c69 => ?_)
        · skip
          refine xr_iload_n C 3 d_Rn_step_161 rfl hq3 ?_
          exact xr_iret C E ⟨rfl, rfl, _, rfl, S1, fo1, γ, ar1, is1, hL9 (by omega), hCT1, hw19, hw21, hF1, hfx, hw22, hγr, hw23, hw24, hfr⟩ (by decide) (by decide) d_Rn_step_162
        · skip
          have hsh := PT_shp hT hx1 ht hPT (t := v) (by omega)
          simp only [if_true] at hsh
          refine xr_aload_n C 0 d_Rn_step_72 rfl hq0 ?_
          refine xr_get (k := 19) C xg_Rn_32 hw19 (by decide) rfl d_Rn_step_73 ?_
          refine xr_iload C d_Rn_step_76 hz4 ?_
          refine xj_iald (k := 23) C (q.length) (by omega) hw23 (by decide) (by omega) (by decide) d_Rn_step_78 ?_
          refine xr_eqz (y := (y : Int)) hAR.1 ?_
          refine xr_istore C d_Rn_step_79 (by decide) ?_
          refine xr_aload_n C 0 d_Rn_step_81 rfl hq0 ?_
          refine xr_get (k := 19) C xg_Rn_35 hw19 (by decide) rfl d_Rn_step_82 ?_
          refine xr_iload C d_Rn_step_85 hz4 ?_
          refine xj_zald (k := 24) C (q.length) (by omega) hw24 (by decide) (by omega) (by decide) d_Rn_step_87 ?_
          refine xr_eqz (y := 1) hAR.2.1 ?_
          refine xz_if_eq (tgt := 104) C d_Rn_step_88 (by decide) (by omega) (fun c88 => by exfalso; omega) (fun c88 => ?_)
          refine xr_aload_n C 0 d_Rn_step_91 rfl hq0 ?_
          refine xr_get (k := 19) C xg_Rn_45 hw19 (by decide) rfl d_Rn_step_92 ?_
          refine xr_get (k := 1) C xg_Rn_89 hw1 (by decide) rfl d_Rn_step_95 ?_
          refine xr_iload C d_Rn_step_98 rfl ?_
          refine xj_iald (k := 3) C (y) (by omega) hw3 (by decide) (by omega) (by decide) d_Rn_step_100 ?_
          refine xr_eqz (y := sFs S y) (by omega) ?_
          refine xr_goto (tgt := 105) C d_Rn_step_101 (by decide) ?_
          refine xr_istore C d_Rn_step_105 (by decide) ?_
          refine xr_aload_n C 0 d_Rn_step_107 rfl hq0 ?_
          refine xr_get (k := 19) C xg_Rn_35 hw19 (by decide) rfl d_Rn_step_108 ?_
          refine xr_iload C d_Rn_step_111 hz4 ?_
          refine xj_zald (k := 24) C (q.length) (by omega) hw24 (by decide) (by omega) (by decide) d_Rn_step_113 ?_
          refine xr_eqz (y := 1) hAR.2.1 ?_
          refine xz_if_eq (tgt := 121) C d_Rn_step_114 (by decide) (by omega) (fun c114 => by exfalso; omega) (fun c114 => ?_)
          refine xr_iload_n C 3 d_Rn_step_117 rfl hq3 ?_
          refine xr_goto (tgt := 131) C d_Rn_step_118 (by decide) ?_
          refine xr_istore C d_Rn_step_131 (by decide) ?_
          refine xr_aload_n C 0 d_Rn_step_133 rfl hq0 ?_
          refine xr_get (k := 19) C xg_Rn_45 hw19 (by decide) rfl d_Rn_step_134 ?_
          refine xr_aload_n C 0 d_Rn_step_137 rfl hq0 ?_
          refine xr_get (k := 19) C xg_Rn_45 hw19 (by decide) rfl d_Rn_step_138 ?_
          refine xr_get (k := 1) C xg_Rn_107 hw1 (by decide) rfl d_Rn_step_141 ?_
          refine xr_iload C d_Rn_step_144 rfl ?_
          refine xj_iald (k := 2) C (y) (by omega) hw2 (by decide) (by omega) (by decide) d_Rn_step_146 ?_
          refine xr_eqz (y := um (sSg S y)) (by rw [m1, t1]) ?_
          refine xr_iload C d_Rn_step_147 rfl ?_
          refine xr_iload C d_Rn_step_149 rfl ?_
          refine xr_callV (k9 := 1) C (m_Tr_numberOf (s := sSg S y) (a := sFs S y) (b := v) hCT1 hT1 hsh) xm_Rn_132 x2_Tr_numberOf hw1 (by decide) rfl (by decide) (by decide) (Nat.le_of_ble_eq_true rfl) rfl d_Rn_step_151 (fun En n9 ad9 w9 hx9 => hx9.elim) (fun v n9 ad9 w9 hp => ?_)
          obtain ⟨rfl, rfl, z, rfl, S2, e2, hCT2, hfr2⟩ := hp
          obtain ⟨hT2, hz2, hz2N, -⟩ := mkT_pos hT1 hsh e2
          have e9 : (z, S2) = mkT S1 (sSg S y) (if true then sFs S y else v) (if true then v else sSn S y) := by simpa using e2
          show XW _ _ _ _ _ _ 154 _ (_ :: _)
          refine xr_istore_n C 3 d_Rn_step_154 rfl (by decide) ?_
          refine xr_iinc C d_Rn_step_155 (by decide) hz4 ?_
          refine xr_goto (tgt := 63) C d_Rn_step_158 (by decide) ?_
          exact ih y k S2 z _ _ hPT.1 hT2 (xt_trans hx1 (mkT_xt e2)) hCT2 hz2 hz2N (fun g => by rw [← up_g e9 (by omega)]; exact hR9 (by omega)) (fun g => by rw [← hR9 (by omega), up_f e9 g, show z = -1 by omega]) ((hfr2 19 (by omega)).trans hw19) ((hfr2 21 (by omega)).trans hw21) ((hfr2 22 (by omega)).trans hw22) ((hfr2 23 (by omega)).trans hw23) ((hfr2 24 (by omega)).trans hw24) hAR.2.2 (fun k a b c d e f => (hfr2 k a).trans (hfr k a b c d e f)) hq0 rfl rfl
  refine xr_aload_n C 0 d_Rn_step_0 rfl rfl ?_
  refine xr_iload_n C 1 d_Rn_step_1 rfl rfl ?_
  refine xr_callV (k9 := 19) C (m_Rn_seek hCT hT hw19 hn hw12 hw13 hw20 hal (fun r hr => (hR r hr).1) hw21 hF hw22 hβ hw23 hw24 ht h3) xm_Rn_122 x2_Rn_seek hw19 (by decide) rfl (by decide) (by decide) (Nat.le_of_ble_eq_true rfl) rfl d_Rn_step_2 (fun En n9 ad9 w9 hx9 => hx9.elim) (fun v n9 ad9 w9 hp => ?_)
  obtain ⟨rfl, rfl, rfl, fo1, γ0, ar1, is1, hw19, hw21, hF1, hx3, hw22, hγ0, hw23, hw24, hAR, hfr⟩ := hp
  have hw19 : w9 19 = rnO ad ((skT S n rl us t).2.1 : Int) ((skT S n rl us t).2.2 : Int) ((skT S n rl us t).1.length : Int) md mo := hw19
  have hx3 : fo1 (skT S n rl us t).2.1 ≠ -3 := hx3
  have hAR : AR ar1 is1 (skT S n rl us t).1 := hAR
  obtain ⟨g1, g2, g3, g4, g5, g6, g7, g8, g9⟩ := stp_at (us := us) hT hR ht hcs9
  obtain ⟨⟨a1, a2, a3⟩, ⟨b1, b2⟩, -⟩ := hR _ g5
  have hfx : fo1 (skT S n rl us t).2.1 = (ruT S n rl us t : Int) := by
    rcases hF1.1 (skT S n rl us t).2.1 (by omega) with q | q
    · exact absurd q hx3
    · rw [q.2]; exact g3
  have hw1 := (hfr 1 (by decide) (by decide) (by decide) (by decide) (by decide)).trans hw1
  have hw12 := (hfr 12 (by decide) (by decide) (by decide) (by decide) (by decide)).trans hw12
  have hw13 := (hfr 13 (by decide) (by decide) (by decide) (by decide) (by decide)).trans hw13
  have hw14 := (hfr 14 (by decide) (by decide) (by decide) (by decide) (by decide)).trans hw14
  refine xr_aload_n C 0 d_Rn_step_5 rfl rfl ?_
  refine xr_get (k := 19) C xg_Rn_15 hw19 (by decide) rfl d_Rn_step_6 ?_
  refine xr_aload_n C 0 d_Rn_step_9 rfl rfl ?_
  refine xr_get (k := 19) C xg_Rn_22 hw19 (by decide) rfl d_Rn_step_10 ?_
  refine xj_iald (k := 21) C ((skT S n rl us t).2.1) (by omega) hw21 (by decide) (by omega) (by decide) d_Rn_step_13 ?_
  refine xr_eqz (y := (ruT S n rl us t : Int)) hfx ?_
  refine xr_istore_n C 2 d_Rn_step_14 rfl (by decide) ?_
  refine xr_iload_n C 2 d_Rn_step_15 rfl rfl ?_
  refine xz_if_lt (tgt := 39) C d_Rn_step_16 (by decide) (by omega) (fun c16 => by exfalso; omega) (fun c16 => ?_)
  refine xr_aload_n C 0 d_Rn_step_19 rfl rfl ?_
  refine xr_aload_n C 0 d_Rn_step_20 rfl rfl ?_
  refine xr_get (k := 19) C xg_Rn_49 hw19 (by decide) rfl d_Rn_step_21 ?_
  refine xr_get (k := 12) C xg_Rn_100 hw12 (by decide) rfl d_Rn_step_24 ?_
  refine xr_iload_n C 2 d_Rn_step_27 rfl rfl ?_
  refine xj_iald (k := 13) C (ruT S n rl us t) (by omega) hw13 (by decide) (by omega) (by decide) d_Rn_step_28 ?_
  refine xr_eqz (y := (((rl (ruT S n rl us t)).toNat : Nat) : Int)) (by omega) ?_
  refine xr_aload_n C 0 d_Rn_step_29 rfl rfl ?_
  refine xr_get (k := 19) C xg_Rn_22 hw19 (by decide) rfl d_Rn_step_30 ?_
  refine xr_callV (k9 := 19) C (m_Rn_matches (l := (rl (ruT S n rl us t)).toNat) (t := (skT S n rl us t).2.1) (ct_fr hCT (fun k a b => hfr k (by omega) (by omega) (by omega) (by omega) (by omega))) hT hw19 hw22 hγ0 (by omega) g2 a3) xm_Rn_103 x2_Rn_matches hw19 (by decide) rfl (by decide) (by decide) (Nat.le_of_ble_eq_true rfl) rfl d_Rn_step_33 (fun En n9 ad9 w9 hx9 => hx9.elim) (fun v n9 ad9 w9 hp => ?_)
  obtain ⟨rfl, rfl, z, rfl, rfl, ⟨γ, hw22', hγ, hγb⟩, hfr'⟩ := hp
  have hγ9 := hγb _ g7
  have hsome : (mtS S (rl (ruT S n rl us t)).toNat ((skT S n rl us t).2.1)).isSome = true := by rw [g7]; rfl
  have hw1 := (hfr' 1 (by decide)).trans hw1
  have hw12 := (hfr' 12 (by decide)).trans hw12
  have hw14 := (hfr' 14 (by decide)).trans hw14
  have hw19 := (hfr' 19 (by decide)).trans hw19
  have hw21 := (hfr' 21 (by decide)).trans hw21
  have hw23 := (hfr' 23 (by decide)).trans hw23
  have hw24 := (hfr' 24 (by decide)).trans hw24
  show XW _ _ _ _ _ _ 36 _ (_ :: _)
  refine xb_if_ne (tgt := 41) C d_Rn_step_36 (by decide)  (fun c36 => ?_) (fun c36 => by exfalso; rw [hsome] at c36; cases c36)
  refine xr_aload_n C 0 d_Rn_step_41 rfl rfl ?_
  refine xr_aload_n C 0 d_Rn_step_42 rfl rfl ?_
  refine xr_get (k := 19) C xg_Rn_49 hw19 (by decide) rfl d_Rn_step_43 ?_
  refine xr_get (k := 12) C xg_Rn_126 hw12 (by decide) rfl d_Rn_step_46 ?_
  refine xr_iload_n C 2 d_Rn_step_49 rfl rfl ?_
  refine xj_iald (k := 14) C (ruT S n rl us t) (by omega) hw14 (by decide) (by omega) (by decide) d_Rn_step_50 ?_
  refine xr_callV (k9 := 19) C (m_Rn_filled (S0 := S) (β := bdT S n rl us t) hT hγ9 31 (x := rr (ruT S n rl us t)) hT (xt_refl S) (ct_fr hCT (fun k a b => (hfr' k (by omega)).trans (hfr k (by omega) (by omega) (by omega) (by omega) (by omega)))) hw19 hw22' (by omega) (fun _ => g8) (fun _ => by have := (hT.2.1 (rr (ruT S n rl us t)).toNat (by omega)).2.2.2.2.2; omega)) xm_Rn_129 x2_Rn_filled hw19 (by decide) rfl (by decide) (by decide) (Nat.le_of_ble_eq_true rfl) rfl d_Rn_step_51 (fun En n9 ad9 w9 hx9 => hx9.elim) (fun v n9 ad9 w9 hp => ?_)
  obtain ⟨rfl, rfl, v, rfl, S1, e1, hCT1, hfr1⟩ := hp
  have e1 : (v, S1) = byT S n rl rr us t := by rw [e1]; unfold bldI byT; rw [if_neg (by omega)]
  obtain ⟨k1, k2, k3, k4⟩ := bld_ok hT _ S v S1 (by omega) hT (xt_refl S) g8 e1
  have hw19 := (hfr1 19 (by omega)).trans hw19
  have hw21 := (hfr1 21 (by omega)).trans hw21
  have hw23 := (hfr1 23 (by omega)).trans hw23
  have hw24 := (hfr1 24 (by omega)).trans hw24
  have hw22'' := (hfr1 22 (by omega)).trans hw22'
  show XW _ _ _ _ _ _ 54 _ (_ :: _)
  refine xr_istore_n C 3 d_Rn_step_54 rfl (by decide) ?_
  refine xr_aload_n C 0 d_Rn_step_55 rfl rfl ?_
  refine xr_get (k := 19) C xg_Rn_29 hw19 (by decide) rfl d_Rn_step_56 ?_
  refine xr_iconst C d_Rn_step_59 ?_
  refine xz_isub C d_Rn_step_60 ?_
  refine xr_istore C d_Rn_step_61 (by decide) ?_
  exact lp fo1 γ ar1 is1 hF1 hfx hγ _ _ _ S1 v _ _ g1 k1 k2 hCT1 k3 k4 (fun q => by unfold stp; rw [← e1, if_neg (by omega)]) (fun q => by unfold stp; rw [← e1, if_pos q, show v = -1 by omega]) hw19 hw21 hw22'' hw23 hw24 hAR (fun k a b c d e f => (hfr1 k a).trans ((hfr' k d).trans (hfr k b c d e f))) rfl rfl rfl
