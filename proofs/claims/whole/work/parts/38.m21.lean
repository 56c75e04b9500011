theorem sa_fr {cA : Nat → ClassId} {w w' : Nat → va_E} (h : SA cA w) (hf : ∀ k, 46 ≤ k → k ≤ 51 → w' k = w k) : SA cA w' := by
  obtain ⟨⟨a, ha⟩, ⟨b, hb⟩, ⟨c, hc⟩, ⟨d, hd⟩⟩ := h
  exact ⟨⟨a, (hf 46 (by decide) (by decide)).trans ha⟩, ⟨b, (hf 47 (by decide) (by decide)).trans hb⟩, ⟨c, (hf 50 (by decide) (by decide)).trans hc⟩, ⟨d, (hf 51 (by decide) (by decide)).trans hd⟩⟩
set_option maxHeartbeats 4000000 in
set_option maxRecDepth 100000 in
theorem m_Md_lookForRules {L : Launch} {D : va_G} {cA : Nat → ClassId} {base : Nat} {ad : Nat → Nat} {w : Nat → va_E} {S : xS} {n : Nat} {ro sp nr ns th : Int} {se fa so : Bool} (hMT : MT ad cA w S (n : Int) ro sp nr ns th se fa so) (hT : Tb S) (hSA : SA cA w) {rl rr : Nat → Int} (hn : n ≤ 16) (hw37 : w 37 = xIA (cA 0) 16 rl) (hw38 : w 38 = xIA (cA 0) 16 rr) (hR : RG S n rl rr) {co ch an : Nat → Int} (hw39 : w 39 = xIA (cA 0) 16 co) (hw40 : w 40 = xIA (cA 1) 16 ch) (hw41 : w 41 = xIA (cA 0) 10 an) (hco : ∀ j, -1 ≤ co j ∧ co j < 10) (hch : ∀ j, ch j = 0 ∨ ch j = 1) (han : ∀ j, 0 ≤ an j ∧ an j ≤ 2) {le9 f0 : Nat → Int} (hle : ∀ r, r < n → le9 r = xb (abv S (rl r).toNat (rr r).toNat)) (hw54 : w 54 = xIA (cA 1) 16 f0) {only : Bool} : XM L D cA base y_Md_lookForRules c_Md_lookForRules 3 none (xrm 5 0 0) [.ref (ad 29), .int (zI (xb only))] 56 ad w (xVoid 56 ad (fun w' => ∃ f : Nat → Int, w' 54 = xIA (cA 1) 16 f ∧ (∀ r, r < n → f r = xb (usS co ch an le9 only r)) ∧ SA cA w' ∧ ∀ k, k ≠ 46 → k ≠ 47 → k ≠ 50 → k ≠ 51 → k ≠ 54 → w' k = w k)) xF := by
  refine xm_of (by decide +kernel) (by simp [Value.category]) (Nat.le_of_ble_eq_true rfl) (fun G C E _ => ?_)
  obtain ⟨sg, fs, sn, wt, pl, dp, ho, hw29, hw30, hw31, hw32, hw33, hw34, hw35, hw36, hA⟩ := id hMT
  have hN := hT.1
  have lp : ∀ (m i : Nat) (w1 : Nat → va_E) (f : Nat → Int) (lv : Nat → Option Value), n + 1 ≤ i + m → i ≤ n → w1 54 = xIA (cA 1) 16 f → (∀ r, r < i → f r = xb (usS co ch an le9 only r)) → SA cA w1 → (∀ k, k ≠ 46 → k ≠ 47 → k ≠ 50 → k ≠ 51 → k ≠ 54 → w1 k = w k) → lv 0 = some (.ref (ad 29)) → lv 1 = some (.int (zI (xb only))) → lv 2 = some (.int (zI (i : Int))) → XW G 56 ad w1 0 0 2 lv [] := by
    intro m
    induction m with
    | zero => intro i w1 f lv h1 h2; exact absurd h1 (by omega)
    | succ m ih =>
      intro i w1 f lv h1 h2 hw54 hf hSA hfr hq0 hq1 hq2
      have hw29 := (hfr 29 (by decide) (by decide) (by decide) (by decide) (by decide)).trans hw29
      have hw37 := (hfr 37 (by decide) (by decide) (by decide) (by decide) (by decide)).trans hw37
      have hw38 := (hfr 38 (by decide) (by decide) (by decide) (by decide) (by decide)).trans hw38
      have hw39 := (hfr 39 (by decide) (by decide) (by decide) (by decide) (by decide)).trans hw39
      have hw40 := (hfr 40 (by decide) (by decide) (by decide) (by decide) (by decide)).trans hw40
      have hw41 := (hfr 41 (by decide) (by decide) (by decide) (by decide) (by decide)).trans hw41
      refine xr_iload_n C 2 d_Md_lookForRules_2 rfl hq2 ?_
      refine xr_aload_n C 0 d_Md_lookForRules_3 rfl hq0 ?_
      refine xr_get (k := 29) C xg_Md_129 hw29 (by decide) rfl d_Md_lookForRules_4 ?_
      refine xz_icmp_ge (tgt := 58) C d_Md_lookForRules_7 (by decide) (by omega) (by omega) (fun c7 => ?_) (fun c7 => ?_)
      · skip
        exact xr_vret C E ⟨rfl, rfl, rfl, f, hw54, fun r hr => hf r (by omega), hSA, hfr⟩ (by decide) (by decide) d_Md_lookForRules_58
      · skip
        refine xr_aload_n C 0 d_Md_lookForRules_10 rfl hq0 ?_
        refine xr_get (k := 29) C xg_Md_83 hw29 (by decide) rfl d_Md_lookForRules_11 ?_
        refine xr_iload_n C 2 d_Md_lookForRules_14 rfl hq2 ?_
        refine xr_aload_n C 0 d_Md_lookForRules_15 rfl hq0 ?_
        refine xr_iload_n C 2 d_Md_lookForRules_16 rfl hq2 ?_
        refine xr_callV (k9 := 29) C (m_Md_may (w := w1) hw29 hw39 hw40 hw41 (x := (i : Int)) (by omega) (hco _) (hch _) han) xm_Md_135 x2_Md_may hw29 (by decide) rfl (by decide) (by decide) (Nat.le_of_ble_eq_true rfl) rfl d_Md_lookForRules_17 (fun En n9 ad9 w9 hx9 => hx9.elim) (fun v n9 ad9 w9 hp => ?_)
        obtain ⟨rfl, rfl, rfl, rfl⟩ := hp
        show XW _ _ _ _ _ _ 20 _ (_ :: _)
        rw [Int.toNat_natCast]
        have hi16 : i < n := by omega
        have hl9 := hle i hi16
        obtain ⟨⟨a1, a2, -⟩, ⟨b1, b2⟩, -⟩ := hR i hi16
        refine xb_if_eq (tgt := 50) C d_Md_lookForRules_20 (by decide)  (fun c20 => ?_) (fun c20 => ?_)
        · skip
          have hv : 0 = xb (usS co ch an le9 only i) := by unfold usS; rw [c20]; rfl
          refine xr_iconst C d_Md_lookForRules_50 ?_
          refine xj_zast (k := 54) C (i) (by omega) (by first | exact hw54' | exact hw54) (by decide) (by omega) (by decide) (by omega) d_Md_lookForRules_51 ?_
          refine xr_iinc C d_Md_lookForRules_52 (by decide) hq2 ?_
          refine xr_goto (tgt := 2) C d_Md_lookForRules_55 (by decide) ?_
          first
            | exact ih (i + 1) _ _ _ (by omega) (by omega) rfl (fun r hr => by
                by_cases e : r = i
                · rw [e, va_eq]; exact hv
                · rw [va_ne e]; exact hf r (by omega)) (sa_fr hSA' (fun k a b => va_ne (by omega))) (fun k a b c d e => (va_ne e).trans ((hfr' k a b c d).trans (hfr k a b c d e))) hq0 hq1 rfl
            | exact ih (i + 1) _ _ _ (by omega) (by omega) rfl (fun r hr => by
                by_cases e : r = i
                · rw [e, va_eq]; exact hv
                · rw [va_ne e]; exact hf r (by omega)) (sa_fr hSA (fun k a b => va_ne (by omega))) (fun k a b c d e => (va_ne e).trans (hfr k a b c d e)) hq0 hq1 rfl
        · skip
          refine xr_iload_n C 1 d_Md_lookForRules_23 rfl hq1 ?_
          refine xb_if_eq (tgt := 46) C d_Md_lookForRules_24 (by decide)  (fun c24 => ?_) (fun c24 => ?_)
          · skip
            have hv : 1 = xb (usS co ch an le9 only i) := by unfold usS; rw [c20, c24]; simp [xb]
            refine xr_iconst C d_Md_lookForRules_46 ?_
            refine xr_goto (tgt := 51) C d_Md_lookForRules_47 (by decide) ?_
            refine xj_zast (k := 54) C (i) (by omega) (by first | exact hw54' | exact hw54) (by decide) (by omega) (by decide) (by omega) d_Md_lookForRules_51 ?_
            refine xr_iinc C d_Md_lookForRules_52 (by decide) hq2 ?_
            refine xr_goto (tgt := 2) C d_Md_lookForRules_55 (by decide) ?_
            first
              | exact ih (i + 1) _ _ _ (by omega) (by omega) rfl (fun r hr => by
                  by_cases e : r = i
                  · rw [e, va_eq]; exact hv
                  · rw [va_ne e]; exact hf r (by omega)) (sa_fr hSA' (fun k a b => va_ne (by omega))) (fun k a b c d e => (va_ne e).trans ((hfr' k a b c d).trans (hfr k a b c d e))) hq0 hq1 rfl
              | exact ih (i + 1) _ _ _ (by omega) (by omega) rfl (fun r hr => by
                  by_cases e : r = i
                  · rw [e, va_eq]; exact hv
                  · rw [va_ne e]; exact hf r (by omega)) (sa_fr hSA (fun k a b => va_ne (by omega))) (fun k a b c d e => (va_ne e).trans (hfr k a b c d e)) hq0 hq1 rfl
          · skip
            refine xr_aload_n C 0 d_Md_lookForRules_27 rfl hq0 ?_
            refine xr_aload_n C 0 d_Md_lookForRules_28 rfl hq0 ?_
            refine xr_get (k := 29) C xg_Md_31 hw29 (by decide) rfl d_Md_lookForRules_29 ?_
            refine xr_iload_n C 2 d_Md_lookForRules_32 rfl hq2 ?_
            refine xj_iald (k := 37) C (i) (by omega) hw37 (by decide) (by omega) (by decide) d_Md_lookForRules_33 ?_
            refine xr_eqz (y := (((rl i).toNat : Nat) : Int)) (by omega) ?_
            refine xr_aload_n C 0 d_Md_lookForRules_34 rfl hq0 ?_
            refine xr_get (k := 29) C xg_Md_34 hw29 (by decide) rfl d_Md_lookForRules_35 ?_
            refine xr_iload_n C 2 d_Md_lookForRules_38 rfl hq2 ?_
            refine xj_iald (k := 38) C (i) (by omega) hw38 (by decide) (by omega) (by decide) d_Md_lookForRules_39 ?_
            refine xr_eqz (y := (((rr i).toNat : Nat) : Int)) (by omega) ?_
            refine xr_callV (k9 := 29) C (m_Md_isAbove (w := w1) (x0 := (rl i).toNat) (y0 := (rr i).toNat) (mt_fr hMT (fun k a b => hfr k (by omega) (by omega) (by omega) (by omega) (by omega))) hT (by omega) (by omega) hSA) xm_Md_138 x2_Md_isAbove hw29 (by decide) rfl (by decide) (by decide) (Nat.le_of_ble_eq_true rfl) rfl d_Md_lookForRules_40 (fun En n9 ad9 w9 hx9 => hx9.elim) (fun v n9 ad9 w9 hp => ?_)
            obtain ⟨rfl, rfl, z, rfl, rfl, hSA', hfr'⟩ := hp
            have hw54' := (hfr' 54 (by decide) (by decide) (by decide) (by decide)).trans hw54
            show XW _ _ _ _ _ _ 43 _ (_ :: _)
            refine xb_if_eq (tgt := 50) C d_Md_lookForRules_43 (by decide)  (fun c43 => ?_) (fun c43 => ?_)
            · skip
              have hv : 0 = xb (usS co ch an le9 only i) := by unfold usS; rw [c20, c24, hl9, c43]; rfl
              refine xr_iconst C d_Md_lookForRules_50 ?_
              refine xj_zast (k := 54) C (i) (by omega) (by first | exact hw54' | exact hw54) (by decide) (by omega) (by decide) (by omega) d_Md_lookForRules_51 ?_
              refine xr_iinc C d_Md_lookForRules_52 (by decide) hq2 ?_
              refine xr_goto (tgt := 2) C d_Md_lookForRules_55 (by decide) ?_
              first
                | exact ih (i + 1) _ _ _ (by omega) (by omega) rfl (fun r hr => by
                    by_cases e : r = i
                    · rw [e, va_eq]; exact hv
                    · rw [va_ne e]; exact hf r (by omega)) (sa_fr hSA' (fun k a b => va_ne (by omega))) (fun k a b c d e => (va_ne e).trans ((hfr' k a b c d).trans (hfr k a b c d e))) hq0 hq1 rfl
                | exact ih (i + 1) _ _ _ (by omega) (by omega) rfl (fun r hr => by
                    by_cases e : r = i
                    · rw [e, va_eq]; exact hv
                    · rw [va_ne e]; exact hf r (by omega)) (sa_fr hSA (fun k a b => va_ne (by omega))) (fun k a b c d e => (va_ne e).trans (hfr k a b c d e)) hq0 hq1 rfl
            · skip
              have hv : 1 = xb (usS co ch an le9 only i) := by unfold usS; rw [c20, c24, hl9, c43]; rfl
              refine xr_iconst C d_Md_lookForRules_46 ?_
              refine xr_goto (tgt := 51) C d_Md_lookForRules_47 (by decide) ?_
              refine xj_zast (k := 54) C (i) (by omega) (by first | exact hw54' | exact hw54) (by decide) (by omega) (by decide) (by omega) d_Md_lookForRules_51 ?_
              refine xr_iinc C d_Md_lookForRules_52 (by decide) hq2 ?_
              refine xr_goto (tgt := 2) C d_Md_lookForRules_55 (by decide) ?_
              first
                | exact ih (i + 1) _ _ _ (by omega) (by omega) rfl (fun r hr => by
                    by_cases e : r = i
                    · rw [e, va_eq]; exact hv
                    · rw [va_ne e]; exact hf r (by omega)) (sa_fr hSA' (fun k a b => va_ne (by omega))) (fun k a b c d e => (va_ne e).trans ((hfr' k a b c d).trans (hfr k a b c d e))) hq0 hq1 rfl
                | exact ih (i + 1) _ _ _ (by omega) (by omega) rfl (fun r hr => by
                    by_cases e : r = i
                    · rw [e, va_eq]; exact hv
                    · rw [va_ne e]; exact hf r (by omega)) (sa_fr hSA (fun k a b => va_ne (by omega))) (fun k a b c d e => (va_ne e).trans (hfr k a b c d e)) hq0 hq1 rfl
  refine xr_iconst C d_Md_lookForRules_0 ?_
  refine xr_istore_n C 2 d_Md_lookForRules_1 rfl (by decide) ?_
  exact lp (n + 1) 0 _ f0 _ (by omega) (by omega) hw54 (fun r hr => by omega) hSA (fun k _ _ _ _ _ => rfl) rfl rfl rfl
set_option maxHeartbeats 4000000 in
set_option maxRecDepth 100000 in
theorem m_Md_ruleAt {L : Launch} {D : va_G} {cA : Nat → ClassId} {base : Nat} {ad : Nat → Nat} {w : Nat → va_E} {S : xS} {n : Nat} {ro sp nr ns th : Int} {se fa so : Bool} (hMT : MT ad cA w S (n : Int) ro sp nr ns th se fa so) (hT : Tb S) {rl rr : Nat → Int} (hn : n ≤ 16) (hw37 : w 37 = xIA (cA 0) 16 rl) (hw38 : w 38 = xIA (cA 0) 16 rr) (hR : RG S n rl rr) {T : Nat} (hTN : T < sN S) {Z : Nat → Int} (hw44 : w 44 = xIA (cA 0) 1001 Z) (hDZ : DN Z (lyS S T)) {pos t : Nat} (hpos : (lyS S T)[pos]? = some t) {g6 g7 γ0 : Nat → Int} (hw46 : w 46 = xIA (cA 0) 1001 g6) (hw47 : w 47 = xIA (cA 0) 1100 g7) (hw48 : w 48 = xIA (cA 0) 6 γ0) {f : Nat → Int} {us : Nat → Bool} (hw54 : w 54 = xIA (cA 1) 16 f) (hus : ∀ r, r < n → f r = xb (us r)) : XM L D cA base y_Md_ruleAt c_Md_ruleAt 3 (some .int) (xrm 3 0 0) [.ref (ad 29), .int (zI (pos : Int))] 56 ad w (xRet 56 ad (fun z w' => z = lowR S n rl us t ∧ (∃ γ, w' 48 = xIA (cA 0) 6 γ ∧ ∀ r : Nat, z = (r : Int) → ∀ b, mtS S (rl r).toNat t = some b → ∀ h, h < 6 → γ h = b h) ∧ (∃ g, w' 46 = xIA (cA 0) 1001 g) ∧ (∃ g, w' 47 = xIA (cA 0) 1100 g) ∧ ∀ k, k ≠ 46 → k ≠ 47 → k ≠ 48 → w' k = w k)) xF := by
  refine xm_of (by decide +kernel) (by simp [Value.category]) (Nat.le_of_ble_eq_true rfl) (fun G C E _ => ?_)
  obtain ⟨sg, fs, sn, wt, pl, dp, ho, hw29, hw30, hw31, hw32, hw33, hw34, hw35, hw36, hA⟩ := id hMT
  have hN := hT.1
  have lp : ∀ (m i : Nat) (w1 : Nat → va_E) (g6 g7 γ1 : Nat → Int) (lv : Nat → Option Value), n + 1 ≤ i + m → i ≤ n → w1 46 = xIA (cA 0) 1001 g6 → w1 47 = xIA (cA 0) 1100 g7 → w1 48 = xIA (cA 0) 6 γ1 → (∀ k, k ≠ 46 → k ≠ 47 → k ≠ 48 → w1 k = w k) → (∀ j, j < i → hit S rl us t j = false) → lv 0 = some (.ref (ad 29)) → lv 1 = some (.int (zI (pos : Int))) → lv 2 = some (.int (zI (i : Int))) → XW G 56 ad w1 0 0 2 lv [] := by
    intro m
    induction m with
    | zero => intro i w1 g6 g7 γ1 lv h1 h2; exact absurd h1 (by omega)
    | succ m ih =>
      intro i w1 g6 g7 γ1 lv h1 h2 hw46 hw47 hw48 hfr hm hq0 hq1 hq2
      have hw29 := (hfr 29 (by decide) (by decide) (by decide)).trans hw29
      have hw37 := (hfr 37 (by decide) (by decide) (by decide)).trans hw37
      have hw44 := (hfr 44 (by decide) (by decide) (by decide)).trans hw44
      have hw54 := (hfr 54 (by decide) (by decide) (by decide)).trans hw54
      refine xr_iload_n C 2 d_Md_ruleAt_2 rfl hq2 ?_
      refine xr_aload_n C 0 d_Md_ruleAt_3 rfl hq0 ?_
      refine xr_get (k := 29) C xg_Md_129 hw29 (by decide) rfl d_Md_ruleAt_4 ?_
      refine xz_icmp_ge (tgt := 41) C d_Md_ruleAt_7 (by decide) (by omega) (by omega) (fun c7 => ?_) (fun c7 => ?_)
      · skip
        refine xr_iconst C d_Md_ruleAt_41 ?_
        exact xr_iret C E ⟨rfl, rfl, _, rfl, (lw_none (fun j hj => hm j (by omega))).symm, ⟨γ1, hw48, fun r hr => by omega⟩, ⟨g6, hw46⟩, ⟨g7, hw47⟩, hfr⟩ (by decide) (by decide) d_Md_ruleAt_42
      · skip
        refine xr_aload_n C 0 d_Md_ruleAt_10 rfl hq0 ?_
        refine xr_get (k := 29) C xg_Md_83 hw29 (by decide) rfl d_Md_ruleAt_11 ?_
        refine xr_iload_n C 2 d_Md_ruleAt_14 rfl hq2 ?_
        refine xj_zald (k := 54) C (i) (by omega) hw54 (by decide) (by omega) (by decide) d_Md_ruleAt_15 ?_
        have ha9 := hus i (by omega)
        have hx9 := xb_01 (p := us i)
        refine xz_if_eq (tgt := 35) C d_Md_ruleAt_16 (by decide) (by omega) (fun c16 => ?_) (fun c16 => ?_)
        · skip
          have hu : us i = false := by
            cases e : us i with
            | false => rfl
            | true => rw [e] at ha9; exfalso; have : xb true = 1 := rfl; omega
          have hno : hit S rl us t i = false := by unfold hit; rw [hu]; rfl
          refine xr_iinc C d_Md_ruleAt_35 (by decide) hq2 ?_
          refine xr_goto (tgt := 2) C d_Md_ruleAt_38 (by decide) ?_
          first
            | exact ih (i + 1) _ h6 h7 γ _ (by omega) (by omega) hw46' hw47' hw48' (fun k a b c => (hfr' k a b c).trans (hfr k a b c)) (fun j hj => by
                by_cases e : j = i
                · rw [e]; exact hno
                · exact hm j (by omega)) hq0 hq1 rfl
            | exact ih (i + 1) _ g6 g7 γ1 _ (by omega) (by omega) hw46 hw47 hw48 hfr (fun j hj => by
                by_cases e : j = i
                · rw [e]; exact hno
                · exact hm j (by omega)) hq0 hq1 rfl
        · skip
          have hu : us i = true := by
            cases e : us i with
            | true => rfl
            | false => rw [e] at ha9; exfalso; have : xb false = 0 := rfl; omega
          obtain ⟨⟨a1, a2, a3⟩, -⟩ := hR i (by omega)
          refine xr_aload_n C 0 d_Md_ruleAt_19 rfl hq0 ?_
          refine xr_aload_n C 0 d_Md_ruleAt_20 rfl hq0 ?_
          refine xr_get (k := 29) C xg_Md_31 hw29 (by decide) rfl d_Md_ruleAt_21 ?_
          refine xr_iload_n C 2 d_Md_ruleAt_24 rfl hq2 ?_
          refine xj_iald (k := 37) C (i) (by omega) hw37 (by decide) (by omega) (by decide) d_Md_ruleAt_25 ?_
          refine xr_eqz (y := (((rl i).toNat : Nat) : Int)) (by omega) ?_
          refine xr_iload_n C 1 d_Md_ruleAt_26 rfl hq1 ?_
          refine xr_callV (k9 := 29) C (m_Md_matches (w := w1) (l := (rl i).toNat) (pos := pos) (t := t) (mt_fr hMT (fun k a b => hfr k (by omega) (by omega) (by omega))) hT hTN hw44 hDZ (by omega) hpos hw46 hw47 hw48) xm_Md_141 x2_Md_matches hw29 (by decide) rfl (by decide) (by decide) (Nat.le_of_ble_eq_true rfl) rfl d_Md_ruleAt_27 (fun En n9 ad9 w9 hx9 => hx9.elim) (fun v n9 ad9 w9 hp => ?_)
          obtain ⟨rfl, rfl, z, rfl, rfl, ⟨γ, hw48', hγ⟩, ⟨h6, hw46'⟩, ⟨h7, hw47'⟩, hfr'⟩ := hp
          show XW _ _ _ _ _ _ 30 _ (_ :: _)
          refine xb_if_eq (tgt := 35) C d_Md_ruleAt_30 (by decide)  (fun c30 => ?_) (fun c30 => ?_)
          · skip
            have hno : hit S rl us t i = false := by unfold hit; rw [hu, c30]; rfl
            refine xr_iinc C d_Md_ruleAt_35 (by decide) hq2 ?_
            refine xr_goto (tgt := 2) C d_Md_ruleAt_38 (by decide) ?_
            first
              | exact ih (i + 1) _ h6 h7 γ _ (by omega) (by omega) hw46' hw47' hw48' (fun k a b c => (hfr' k a b c).trans (hfr k a b c)) (fun j hj => by
                  by_cases e : j = i
                  · rw [e]; exact hno
                  · exact hm j (by omega)) hq0 hq1 rfl
              | exact ih (i + 1) _ g6 g7 γ1 _ (by omega) (by omega) hw46 hw47 hw48 hfr (fun j hj => by
                  by_cases e : j = i
                  · rw [e]; exact hno
                  · exact hm j (by omega)) hq0 hq1 rfl
          · skip
            have hyes : hit S rl us t i = true := by unfold hit; rw [hu, c30]; rfl
            refine xr_iload_n C 2 d_Md_ruleAt_33 rfl hq2 ?_
            exact xr_iret C E ⟨rfl, rfl, _, rfl, (lw_some (by omega) hm hyes).symm, ⟨γ, hw48', fun r hr b hb => hγ b (by rw [show i = r by omega]; exact hb)⟩, ⟨h6, hw46'⟩, ⟨h7, hw47'⟩, fun k a b c => (hfr' k a b c).trans (hfr k a b c)⟩ (by decide) (by decide) d_Md_ruleAt_34
  refine xr_iconst C d_Md_ruleAt_0 ?_
  refine xr_istore_n C 2 d_Md_ruleAt_1 rfl (by decide) ?_
  exact lp (n + 1) 0 _ g6 g7 γ0 _ (by omega) (by omega) hw46 hw47 hw48 (fun k _ _ _ => rfl) (fun j hj => by omega) rfl rfl rfl
