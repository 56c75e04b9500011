theorem mkT_some {S : xS} {s a b : Int} {j : Nat} (h : fnd S s a b = some j) : mkT S s a b = ((j : Int), S) := by unfold mkT; rw [h]
theorem mkT_none {S : xS} {s a b : Int} (h : fnd S s a b = none) : mkT S s a b = if 300 ≤ sN S ∨ 1000 < nWt (sWt S) s a b ∨ 30 < nDp (sDp S) s a b then (-1, S) else ((sN S : Int), psh S s a b) := by unfold mkT; rw [h]
set_option maxHeartbeats 4000000 in
set_option maxRecDepth 100000 in
theorem m_Tr_numberOf {L : Launch} {D : va_G} {cA : Nat → ClassId} {base : Nat} {ad : Nat → Nat} {w : Nat → va_E} {S : xS} {s a b : Int} (hCT : CT ad cA w S) (hT : Tb S) (hs : shp s a b (sN S)) : XM L D cA base y_Tr_numberOf c_Tr_numberOf 7 (some .int) (xrm 3 0 0) [.ref (ad 1), .int (zI (um s)), .int (zI a), .int (zI b)] 56 ad w (xRet 56 ad (fun z w' => ∃ S' : xS, (z, S') = mkT S s a b ∧ CT ad cA w' S' ∧ (∀ k, (k < 1 ∨ 11 < k) → w' k = w k))) xF := by
  refine xm_of (by decide +kernel) (by simp [Value.category]) (Nat.le_of_ble_eq_true rfl) (fun G C E _ => ?_)
  obtain ⟨mk, fs, sn, wt, pl, dp, ho, hc, nw, od, hw1, hw2, hw3, hw4, hw5, hw6, hw7, hw8, hw9, hw10, hw11, hC⟩ := hCT
  have hum := um_in hs
  have hab := shp_a hs
  have hN := hT.1
  have hsl := slot_in s a b
  have lp : ∀ (k u : Nat) (v : Int) (m : Nat) (lv : Nat → Option Value), u < k → u ≤ sN S → m + u ≤ sN S → hdS S (slot s a b) u v → (∀ i, u ≤ i → i < sN S → slS S i = slot s a b → ¬ isT S s a b i) → lv 0 = some (.ref (ad 1)) → lv 1 = some (.int (zI (um s))) → lv 2 = some (.int (zI a)) → lv 3 = some (.int (zI b)) → lv 4 = some (.int (zI (slot s a b))) → lv 5 = some (.int (zI v)) → lv 6 = some (.int (zI (m : Int))) → XW G 56 ad w 0 0 21 lv [] := by
    intro k
    induction k with
    | zero => intro u v m lv h1; exact absurd h1 (by omega)
    | succ k ih =>
      intro u v m lv h1 h2 h3 hd hm hl0 hl1 hl2 hl3 hl4 hl5 hl6
      have hvin : -1 ≤ v ∧ v < u := by
        rcases hd with ⟨e, -⟩ | ⟨e1, e2, -⟩
        · omega
        · omega
      refine xr_iload C d_Tr_numberOf_21 hl6 ?_
      refine xr_sipush C d_Tr_numberOf_23 (by decide) ?_
      refine xz_icmp_ge (tgt := 85) C d_Tr_numberOf_26 (by decide) (by omega) (by omega) (fun c26 => ?_) (fun c26 => ?_)
      · skip
        have hnone : fnd S s a b = none := fnd_not (fun i hi hti => by
          have hq : slS S i = slot s a b := by unfold slS; rw [hti.1, hti.2.1, hti.2.2]
          by_cases hiu : u ≤ i
          · exact hm i hiu hi hq hti
          · rcases hd with ⟨-, hv⟩ | ⟨e1, e2, e3, e4⟩
            · exact hv i (by omega) hq
            · omega)
        refine xr_aload_n C 0 d_Tr_numberOf_85 rfl hl0 ?_
        refine xr_iload_n C 1 d_Tr_numberOf_86 rfl hl1 ?_
        refine xr_iload_n C 2 d_Tr_numberOf_87 rfl hl2 ?_
        refine xr_iload_n C 3 d_Tr_numberOf_88 rfl hl3 ?_
        refine xr_callV (k9 := 1) C (m_Tr_enter hw1 hw2 hw3 hw4 hw5 hw6 hw7 hw8 hw9 hw10 hw11 hC hT hs hnone) xm_Tr_56 x2_Tr_enter hw1 (by decide) rfl (by decide) (by decide) (Nat.le_of_ble_eq_true rfl) rfl d_Tr_numberOf_89 (fun En n9 ad9 w9 hx9 => hx9.elim) (fun v n9 ad9 w9 hp => ?_)
        obtain ⟨rfl, rfl, z, rfl, S', hz, hCT, hfr⟩ := hp
        show XW _ _ _ _ _ _ 92 _ (_ :: _)
        exact xr_iret C E ⟨rfl, rfl, z, rfl, S', by rw [hz, mkT_none hnone], hCT, hfr⟩ (by decide) (by decide) d_Tr_numberOf_92
      · skip
        refine xr_iload C d_Tr_numberOf_29 hl5 ?_
        refine xz_if_lt (tgt := 85) C d_Tr_numberOf_31 (by decide) (by omega) (fun c31 => ?_) (fun c31 => ?_)
        · skip
          have hnone : fnd S s a b = none := fnd_not (fun i hi hti => by
            have hq : slS S i = slot s a b := by unfold slS; rw [hti.1, hti.2.1, hti.2.2]
            by_cases hiu : u ≤ i
            · exact hm i hiu hi hq hti
            · rcases hd with ⟨-, hv⟩ | ⟨e1, e2, e3, e4⟩
              · exact hv i (by omega) hq
              · omega)
          refine xr_aload_n C 0 d_Tr_numberOf_85 rfl hl0 ?_
          refine xr_iload_n C 1 d_Tr_numberOf_86 rfl hl1 ?_
          refine xr_iload_n C 2 d_Tr_numberOf_87 rfl hl2 ?_
          refine xr_iload_n C 3 d_Tr_numberOf_88 rfl hl3 ?_
          refine xr_callV (k9 := 1) C (m_Tr_enter hw1 hw2 hw3 hw4 hw5 hw6 hw7 hw8 hw9 hw10 hw11 hC hT hs hnone) xm_Tr_56 x2_Tr_enter hw1 (by decide) rfl (by decide) (by decide) (Nat.le_of_ble_eq_true rfl) rfl d_Tr_numberOf_89 (fun En n9 ad9 w9 hx9 => hx9.elim) (fun v n9 ad9 w9 hp => ?_)
          obtain ⟨rfl, rfl, z, rfl, S', hz, hCT, hfr⟩ := hp
          show XW _ _ _ _ _ _ 92 _ (_ :: _)
          exact xr_iret C E ⟨rfl, rfl, z, rfl, S', by rw [hz, mkT_none hnone], hCT, hfr⟩ (by decide) (by decide) d_Tr_numberOf_92
        · skip
          refine xr_aload_n C 0 d_Tr_numberOf_34 rfl hl0 ?_
          refine xr_get (k := 1) C xg_Tr_9 hw1 (by decide) rfl d_Tr_numberOf_35 ?_
          refine xr_iload C d_Tr_numberOf_38 hl5 ?_
          refine xj_iald (k := 2) C (v.toNat) (by omega) hw2 (by decide) (by omega) (by decide) d_Tr_numberOf_40 ?_
          refine xr_iload_n C 1 d_Tr_numberOf_41 rfl hl1 ?_
          have hvr := hC.2.2.1 v.toNat
          refine xz_icmp_ne (tgt := 70) C d_Tr_numberOf_42 (by decide) (by omega) (by omega) (fun c42 => ?_) (fun c42 => ?_)
          · skip
            refine xr_aload_n C 0 d_Tr_numberOf_70 rfl hl0 ?_
            refine xr_get (k := 1) C xg_Tr_39 hw1 (by decide) rfl d_Tr_numberOf_71 ?_
            refine xr_iload C d_Tr_numberOf_74 hl5 ?_
            refine xj_iald (k := 11) C (v.toNat) (by omega) hw11 (by decide) (by omega) (by decide) d_Tr_numberOf_76 ?_
            refine xr_istore C d_Tr_numberOf_77 (by decide) ?_
            refine xr_iinc C d_Tr_numberOf_79 (by decide) hl6 ?_
            refine xr_goto (tgt := 21) C d_Tr_numberOf_82 (by decide) ?_
            have hvq : slS S v.toNat = slot s a b := by
              rcases hd with ⟨e, -⟩ | ⟨e1, e2, e3, e4⟩
              · omega
              · exact e3
            have hvu : v < u := by
              rcases hd with ⟨e, -⟩ | ⟨e1, e2, e3, e4⟩
              · omega
              · exact e2
            have hdv : ∀ i : Nat, v < i → i < u → slS S i ≠ slot s a b := by
              rcases hd with ⟨e, -⟩ | ⟨e1, e2, e3, e4⟩
              · omega
              · exact e4
            refine ih v.toNat _ (m + 1) _ (by omega) (by omega) (by omega) (by have := hC.2.2.2.2 v.toNat (by omega); rw [hvq] at this; exact this) (fun i g1 g2 g3 g4 => ?_) hl0 hl1 hl2 hl3 hl4 rfl rfl
            by_cases hiv : i = v.toNat
            · subst hiv
              obtain ⟨q1, q2, q3, -⟩ := hC.1 v.toNat (by omega)
              rw [g4.1] at q1
              rw [g4.2.1] at q2
              rw [g4.2.2] at q3
              omega
            · by_cases hiu : u ≤ i
              · exact hm i hiu g2 g3 g4
              · exact hdv i (by omega) (by omega) g3
          · skip
            refine xr_aload_n C 0 d_Tr_numberOf_45 rfl hl0 ?_
            refine xr_get (k := 1) C xg_Tr_15 hw1 (by decide) rfl d_Tr_numberOf_46 ?_
            refine xr_iload C d_Tr_numberOf_49 hl5 ?_
            refine xj_iald (k := 3) C (v.toNat) (by omega) hw3 (by decide) (by omega) (by decide) d_Tr_numberOf_51 ?_
            refine xr_iload_n C 2 d_Tr_numberOf_52 rfl hl2 ?_
            refine xz_icmp_ne (tgt := 70) C d_Tr_numberOf_53 (by decide) (by omega) (by omega) (fun c53 => ?_) (fun c53 => ?_)
            · skip
              refine xr_aload_n C 0 d_Tr_numberOf_70 rfl hl0 ?_
              refine xr_get (k := 1) C xg_Tr_39 hw1 (by decide) rfl d_Tr_numberOf_71 ?_
              refine xr_iload C d_Tr_numberOf_74 hl5 ?_
              refine xj_iald (k := 11) C (v.toNat) (by omega) hw11 (by decide) (by omega) (by decide) d_Tr_numberOf_76 ?_
              refine xr_istore C d_Tr_numberOf_77 (by decide) ?_
              refine xr_iinc C d_Tr_numberOf_79 (by decide) hl6 ?_
              refine xr_goto (tgt := 21) C d_Tr_numberOf_82 (by decide) ?_
              have hvq : slS S v.toNat = slot s a b := by
                rcases hd with ⟨e, -⟩ | ⟨e1, e2, e3, e4⟩
                · omega
                · exact e3
              have hvu : v < u := by
                rcases hd with ⟨e, -⟩ | ⟨e1, e2, e3, e4⟩
                · omega
                · exact e2
              have hdv : ∀ i : Nat, v < i → i < u → slS S i ≠ slot s a b := by
                rcases hd with ⟨e, -⟩ | ⟨e1, e2, e3, e4⟩
                · omega
                · exact e4
              refine ih v.toNat _ (m + 1) _ (by omega) (by omega) (by omega) (by have := hC.2.2.2.2 v.toNat (by omega); rw [hvq] at this; exact this) (fun i g1 g2 g3 g4 => ?_) hl0 hl1 hl2 hl3 hl4 rfl rfl
              by_cases hiv : i = v.toNat
              · subst hiv
                obtain ⟨q1, q2, q3, -⟩ := hC.1 v.toNat (by omega)
                rw [g4.1] at q1
                rw [g4.2.1] at q2
                rw [g4.2.2] at q3
                omega
              · by_cases hiu : u ≤ i
                · exact hm i hiu g2 g3 g4
                · exact hdv i (by omega) (by omega) g3
            · skip
              refine xr_aload_n C 0 d_Tr_numberOf_56 rfl hl0 ?_
              refine xr_get (k := 1) C xg_Tr_18 hw1 (by decide) rfl d_Tr_numberOf_57 ?_
              refine xr_iload C d_Tr_numberOf_60 hl5 ?_
              refine xj_iald (k := 4) C (v.toNat) (by omega) hw4 (by decide) (by omega) (by decide) d_Tr_numberOf_62 ?_
              refine xr_iload_n C 3 d_Tr_numberOf_63 rfl hl3 ?_
              refine xz_icmp_ne (tgt := 70) C d_Tr_numberOf_64 (by decide) (by omega) (by omega) (fun c64 => ?_) (fun c64 => ?_)
              · skip
                refine xr_aload_n C 0 d_Tr_numberOf_70 rfl hl0 ?_
                refine xr_get (k := 1) C xg_Tr_39 hw1 (by decide) rfl d_Tr_numberOf_71 ?_
                refine xr_iload C d_Tr_numberOf_74 hl5 ?_
                refine xj_iald (k := 11) C (v.toNat) (by omega) hw11 (by decide) (by omega) (by decide) d_Tr_numberOf_76 ?_
                refine xr_istore C d_Tr_numberOf_77 (by decide) ?_
                refine xr_iinc C d_Tr_numberOf_79 (by decide) hl6 ?_
                refine xr_goto (tgt := 21) C d_Tr_numberOf_82 (by decide) ?_
                have hvq : slS S v.toNat = slot s a b := by
                  rcases hd with ⟨e, -⟩ | ⟨e1, e2, e3, e4⟩
                  · omega
                  · exact e3
                have hvu : v < u := by
                  rcases hd with ⟨e, -⟩ | ⟨e1, e2, e3, e4⟩
                  · omega
                  · exact e2
                have hdv : ∀ i : Nat, v < i → i < u → slS S i ≠ slot s a b := by
                  rcases hd with ⟨e, -⟩ | ⟨e1, e2, e3, e4⟩
                  · omega
                  · exact e4
                refine ih v.toNat _ (m + 1) _ (by omega) (by omega) (by omega) (by have := hC.2.2.2.2 v.toNat (by omega); rw [hvq] at this; exact this) (fun i g1 g2 g3 g4 => ?_) hl0 hl1 hl2 hl3 hl4 rfl rfl
                by_cases hiv : i = v.toNat
                · subst hiv
                  obtain ⟨q1, q2, q3, -⟩ := hC.1 v.toNat (by omega)
                  rw [g4.1] at q1
                  rw [g4.2.1] at q2
                  rw [g4.2.2] at q3
                  omega
                · by_cases hiu : u ≤ i
                  · exact hm i hiu g2 g3 g4
                  · exact hdv i (by omega) (by omega) g3
              · skip
                refine xr_iload C d_Tr_numberOf_67 hl5 ?_
                exact xr_iret C E ⟨rfl, rfl, v, rfl, S, by rw [mkT_some (fnd_of hT (show v.toNat < sN S by omega) ⟨um_inj (hT.2.1 _ (by omega)).1 hs (by rw [← (hC.1 v.toNat (by omega)).1]; omega), by rw [← (hC.1 v.toNat (by omega)).2.1]; omega, by rw [← (hC.1 v.toNat (by omega)).2.2.1]; omega⟩)]; rw [show ((v.toNat : Nat) : Int) = v by omega], ⟨mk, fs, sn, wt, pl, dp, ho, hc, nw, od, hw1, hw2, hw3, hw4, hw5, hw6, hw7, hw8, hw9, hw10, hw11, hC⟩, fun k _ => rfl⟩ (by decide) (by decide) d_Tr_numberOf_69
  refine xr_aload_n C 0 d_Tr_numberOf_0 rfl rfl ?_
  refine xr_iload_n C 1 d_Tr_numberOf_1 rfl rfl ?_
  refine xr_iload_n C 2 d_Tr_numberOf_2 rfl rfl ?_
  refine xr_iload_n C 3 d_Tr_numberOf_3 rfl rfl ?_
  refine xr_callV (k9 := 1) C (m_Tr_slotOf (x := um s) (y := a) (z := b)) xm_Tr_52 x2_Tr_slotOf hw1 (by decide) rfl (by decide) (by decide) (Nat.le_of_ble_eq_true rfl) rfl d_Tr_numberOf_4 (fun En n9 ad9 w9 hx9 => hx9.elim) (fun v n9 ad9 w9 hp => ?_)
  obtain ⟨rfl, rfl, rfl, rfl⟩ := hp
  show XW _ _ _ _ _ _ 7 _ (_ :: _)
  refine xr_eqz (y := slot s a b) rfl ?_
  refine xr_istore C d_Tr_numberOf_7 (by decide) ?_
  refine xr_aload_n C 0 d_Tr_numberOf_9 rfl rfl ?_
  refine xr_get (k := 1) C xg_Tr_36 hw1 (by decide) rfl d_Tr_numberOf_10 ?_
  refine xr_iload C d_Tr_numberOf_13 rfl ?_
  refine xj_iald (k := 10) C ((slot s a b).toNat) (by omega) hw10 (by decide) (by omega) (by decide) d_Tr_numberOf_15 ?_
  refine xr_istore C d_Tr_numberOf_16 (by decide) ?_
  refine xr_iconst C d_Tr_numberOf_18 ?_
  refine xr_istore C d_Tr_numberOf_19 (by decide) ?_
  refine lp (sN S + 1) (sN S) _ 0 _ (by omega) (by omega) (by omega) ?_ (fun i g1 g2 => by omega) rfl rfl rfl rfl rfl rfl rfl
  have := hC.2.2.2.1 (slot s a b).toNat (by omega)
  rw [show (((slot s a b).toNat : Nat) : Int) = slot s a b by omega] at this
  exact this
