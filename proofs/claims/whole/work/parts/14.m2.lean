set_option maxHeartbeats 4000000 in
set_option maxRecDepth 100000 in
theorem m_Tr_noteHoles {L : Launch} {D : va_G} {cA : Nat → ClassId} {base : Nat} {ad : Nat → Nat} {w : Nat → va_E} {t : Int} {mk fs sn hc ho : Nat → Int} {x : Nat} (hw1 : w 1 = trO ad t) (hw2 : w 2 = xIA (cA 0) 300 mk) (hw3 : w 3 = xIA (cA 0) 300 fs) (hw4 : w 4 = xIA (cA 0) 300 sn) (hw8 : w 8 = xIA (cA 0) 300 ho) (hw9 : w 9 = xIA (cA 0) 1800 hc) (hx : x < 300) (hf : -1 ≤ fs x ∧ fs x < x) (hs : -1 ≤ sn x ∧ sn x < x) (hmk : -200 ≤ mk x ∧ mk x ≤ 200) (hhc : ∀ j, 0 ≤ hc j ∧ hc j ≤ 1000) : XM L D cA base y_Tr_noteHoles c_Tr_noteHoles 5 none (xrm 1 0 0) [.ref (ad 1), .int (zI (x : Int))] 56 ad w (xVoid 56 ad (fun w' => ∃ hc' : Nat → Int, w' = va_up (va_up w 9 (xIA (cA 0) 1800 hc')) 8 (xIA (cA 0) 300 (va_up ho x (hbS (fun h => decide (0 < tmH mk fs sn hc x h)) 6))) ∧ (∀ h, h < 6 → hc' (x * 6 + h) = tmH mk fs sn hc x h) ∧ ∀ j, (j < x * 6 ∨ x * 6 + 6 ≤ j) → hc' j = hc j)) xF := by
  refine xm_of (by decide +kernel) (by simp [Value.category]) (Nat.le_of_ble_eq_true rfl) (fun G C E _ => ?_)
  have lp : ∀ (k i : Nat) (hcI : Nat → Int) (lv : Nat → Option Value), 7 ≤ i + k → i ≤ 6 → lv 0 = some (.ref (ad 1)) → lv 1 = some (.int (zI (x : Int))) → lv 2 = some (.int (zI (hbS (fun h => decide (0 < tmH mk fs sn hc x h)) i))) → lv 3 = some (.int (zI (i : Int))) → (∀ h, h < i → hcI (x * 6 + h) = tmH mk fs sn hc x h) → (∀ j, (j < x * 6 ∨ x * 6 + 6 ≤ j) → hcI j = hc j) → XW G 56 ad (va_up w 9 (xIA (cA 0) 1800 hcI)) 0 0 4 lv [] := by
    intro k
    induction k with
    | zero => intro i hcI lv h1 h2; exact absurd h1 (by omega)
    | succ k ih =>
      intro i hcI lv h1 h2 hl0 hl1 hl2 hl3 hin hout
      refine xr_iload_n C 3 d_Tr_noteHoles_4 rfl hl3 ?_
      refine xr_bipush C d_Tr_noteHoles_5 (by decide) ?_
      refine xz_icmp_ge (tgt := 92) C d_Tr_noteHoles_7 (by decide) (by omega) (by omega) (fun c7 => ?_) (fun c7 => ?_)
      · skip
        refine xr_aload_n C 0 d_Tr_noteHoles_92 rfl hl0 ?_
        refine xr_get (k := 1) C xg_Tr_30 hw1 (by decide) rfl d_Tr_noteHoles_93 ?_
        refine xr_iload_n C 1 d_Tr_noteHoles_96 rfl hl1 ?_
        refine xr_iload_n C 2 d_Tr_noteHoles_97 rfl hl2 ?_
        refine xj_iast (k := 8) C (x) (by omega) hw8 (by decide) (by omega) (by decide) d_Tr_noteHoles_98 ?_
        have hi6 : i = 6 := by omega
        subst hi6
        exact xr_vret C E ⟨rfl, rfl, rfl, hcI, rfl, fun h h1 => hin h (by omega), fun j hj => hout j hj⟩ (by decide) (by decide) d_Tr_noteHoles_99
      · skip
        refine xr_aload_n C 0 d_Tr_noteHoles_10 rfl hl0 ?_
        refine xr_get (k := 1) C xg_Tr_9 hw1 (by decide) rfl d_Tr_noteHoles_11 ?_
        refine xr_iload_n C 1 d_Tr_noteHoles_14 rfl hl1 ?_
        refine xj_iald (k := 2) C (x) (by omega) hw2 (by decide) (by omega) (by decide) d_Tr_noteHoles_15 ?_
        refine xr_bipush C d_Tr_noteHoles_16 (by decide) ?_
        refine xr_iload_n C 3 d_Tr_noteHoles_18 rfl hl3 ?_
        refine xz_iadd C d_Tr_noteHoles_19 ?_
        have hmx9 : -2147483648 ≤ mk x ∧ mk x < 2147483648 := by omega
        refine xz_icmp_ne (tgt := 27) C d_Tr_noteHoles_20 (by decide) hmx9 (by omega) (fun c20 => ?_) (fun c20 => ?_)
        · skip
          refine xr_iconst C d_Tr_noteHoles_27 ?_
          refine xr_istore C d_Tr_noteHoles_28 (by decide) ?_
          refine xr_iload C d_Tr_noteHoles_30 rfl ?_
          refine xr_aload_n C 0 d_Tr_noteHoles_32 rfl hl0 ?_
          refine xr_aload_n C 0 d_Tr_noteHoles_33 rfl hl0 ?_
          refine xr_get (k := 1) C xg_Tr_15 hw1 (by decide) rfl d_Tr_noteHoles_34 ?_
          refine xr_iload_n C 1 d_Tr_noteHoles_37 rfl hl1 ?_
          refine xj_iald (k := 3) C (x) (by omega) hw3 (by decide) (by omega) (by decide) d_Tr_noteHoles_38 ?_
          refine xr_iload_n C 3 d_Tr_noteHoles_39 rfl hl3 ?_
          refine xr_callV (k9 := 1) C (m_Tr_holeCount (w := va_up w 9 (xIA (cA 0) 1800 hcI)) (hc := hcI) hw1 rfl (x := fs x) (h := (i : Int)) (by omega) (by omega)) xm_Tr_77 x2_Tr_holeCount hw1 (by decide) rfl (by decide) (by decide) (Nat.le_of_ble_eq_true rfl) rfl d_Tr_noteHoles_40 (fun En n9 ad9 w9 hx9 => hx9.elim) (fun v n9 ad9 w9 hp => ?_)
          obtain ⟨rfl, rfl, rfl, rfl⟩ := hp
          show XW _ _ _ _ _ _ 43 _ (_ :: _)
          refine xr_aload_n C 0 d_Tr_noteHoles_43 rfl hl0 ?_
          refine xr_aload_n C 0 d_Tr_noteHoles_44 rfl hl0 ?_
          refine xr_get (k := 1) C xg_Tr_18 hw1 (by decide) rfl d_Tr_noteHoles_45 ?_
          refine xr_iload_n C 1 d_Tr_noteHoles_48 rfl hl1 ?_
          refine xj_iald (k := 4) C (x) (by omega) hw4 (by decide) (by omega) (by decide) d_Tr_noteHoles_49 ?_
          refine xr_iload_n C 3 d_Tr_noteHoles_50 rfl hl3 ?_
          refine xr_callV (k9 := 1) C (m_Tr_holeCount (w := va_up w 9 (xIA (cA 0) 1800 hcI)) (hc := hcI) hw1 rfl (x := sn x) (h := (i : Int)) (by omega) (by omega)) xm_Tr_77 x2_Tr_holeCount hw1 (by decide) rfl (by decide) (by decide) (Nat.le_of_ble_eq_true rfl) rfl d_Tr_noteHoles_51 (fun En n9 ad9 w9 hx9 => hx9.elim) (fun v n9 ad9 w9 hp => ?_)
          obtain ⟨rfl, rfl, rfl, rfl⟩ := hp
          show XW _ _ _ _ _ _ 54 _ (_ :: _)
          refine xz_iadd C d_Tr_noteHoles_54 ?_
          refine xz_iadd C d_Tr_noteHoles_55 ?_
          have e1 : (if fs x < 0 then 0 else hcI (fs x * 6 + (i : Int)).toNat) = (if fs x < 0 then 0 else hc ((fs x).toNat * 6 + i)) := by
            split
            · rfl
            · rw [show (fs x * 6 + (i : Int)).toNat = (fs x).toNat * 6 + i by omega]
              exact hout _ (by omega)
          have e2 : (if sn x < 0 then 0 else hcI (sn x * 6 + (i : Int)).toNat) = (if sn x < 0 then 0 else hc ((sn x).toNat * 6 + i)) := by
            split
            · rfl
            · rw [show (sn x * 6 + (i : Int)).toNat = (sn x).toNat * 6 + i by omega]
              exact hout _ (by omega)
          refine xr_eqz (y := tmH mk fs sn hc x i) ?_ ?_
          · rw [e1, e2]
            simp only [tmH]
            first
              | (rw [if_pos (show mk x = 100 + (i : Int) by omega)]; omega)
              | (rw [if_neg (show ¬ mk x = 100 + (i : Int) by omega)]; omega)
          refine xr_istore C d_Tr_noteHoles_56 (by decide) ?_
          refine xr_aload_n C 0 d_Tr_noteHoles_58 rfl hl0 ?_
          refine xr_get (k := 1) C xg_Tr_33 hw1 (by decide) rfl d_Tr_noteHoles_59 ?_
          refine xr_iload_n C 1 d_Tr_noteHoles_62 rfl hl1 ?_
          refine xr_bipush C d_Tr_noteHoles_63 (by decide) ?_
          refine xz_imul C d_Tr_noteHoles_65 ?_
          refine xr_iload_n C 3 d_Tr_noteHoles_66 rfl hl3 ?_
          refine xz_iadd C d_Tr_noteHoles_67 ?_
          refine xr_iload C d_Tr_noteHoles_68 rfl ?_
          refine xj_iast (k := 9) C (x * 6 + i) (by omega) rfl (by decide) (by omega) (by decide) d_Tr_noteHoles_70 ?_
          refine xr_iload_n C 2 d_Tr_noteHoles_71 rfl hl2 ?_
          refine xr_iload C d_Tr_noteHoles_72 rfl ?_
          have htm : 0 ≤ tmH mk fs sn hc x i ∧ tmH mk fs sn hc x i ≤ 2001 := by
            have a1 := hhc ((fs x).toNat * 6 + i)
            have a2 := hhc ((sn x).toNat * 6 + i)
            unfold tmH
            constructor <;> (repeat' split) <;> omega
          refine xz_if_le (tgt := 83) C d_Tr_noteHoles_74 (by decide) (by omega) (fun c74 => ?_) (fun c74 => ?_)
          · skip
            refine xr_iconst C d_Tr_noteHoles_83 ?_
            refine xr_ior C d_Tr_noteHoles_84 ?_
            first
              | rw [zI_orp (by omega) (hbS_in _ i)]
              | rw [zI_or0]
            refine xr_eqz (y := hbS (fun h => decide (0 < tmH mk fs sn hc x h)) (i + 1)) (by
              simp only [hbS]
              first
                | rw [if_pos (by simp; omega)]
                | rw [if_neg (by simp; omega), Int.add_zero]) ?_
            refine xr_istore_n C 2 d_Tr_noteHoles_85 rfl (by decide) ?_
            refine xr_iinc C d_Tr_noteHoles_86 (by decide) hl3 ?_
            refine xr_goto (tgt := 4) C d_Tr_noteHoles_89 (by decide) ?_
            rw [bx_uu]
            exact ih (i + 1) _ _ (by omega) (by omega) hl0 hl1 rfl rfl (fun h h1 => by
              by_cases e : h = i
              · rw [e]; simp [va_up]
              · simp [va_up, e]
                exact hin h (by omega)) (fun j hj => by
              simp [va_up, show j ≠ x * 6 + i by omega]
              exact hout j hj)
          · skip
            refine xr_iconst C d_Tr_noteHoles_77 ?_
            refine xr_iload_n C 3 d_Tr_noteHoles_78 rfl hl3 ?_
            refine xr_ishl C d_Tr_noteHoles_79 ?_
            rw [zI_shl1 (by omega)]
            refine xr_goto (tgt := 84) C d_Tr_noteHoles_80 (by decide) ?_
            refine xr_ior C d_Tr_noteHoles_84 ?_
            first
              | rw [zI_orp (by omega) (hbS_in _ i)]
              | rw [zI_or0]
            refine xr_eqz (y := hbS (fun h => decide (0 < tmH mk fs sn hc x h)) (i + 1)) (by
              simp only [hbS]
              first
                | rw [if_pos (by simp; omega)]
                | rw [if_neg (by simp; omega), Int.add_zero]) ?_
            refine xr_istore_n C 2 d_Tr_noteHoles_85 rfl (by decide) ?_
            refine xr_iinc C d_Tr_noteHoles_86 (by decide) hl3 ?_
            refine xr_goto (tgt := 4) C d_Tr_noteHoles_89 (by decide) ?_
            rw [bx_uu]
            exact ih (i + 1) _ _ (by omega) (by omega) hl0 hl1 rfl rfl (fun h h1 => by
              by_cases e : h = i
              · rw [e]; simp [va_up]
              · simp [va_up, e]
                exact hin h (by omega)) (fun j hj => by
              simp [va_up, show j ≠ x * 6 + i by omega]
              exact hout j hj)
        · skip
          refine xr_iconst C d_Tr_noteHoles_23 ?_
          refine xr_goto (tgt := 28) C d_Tr_noteHoles_24 (by decide) ?_
          refine xr_istore C d_Tr_noteHoles_28 (by decide) ?_
          refine xr_iload C d_Tr_noteHoles_30 rfl ?_
          refine xr_aload_n C 0 d_Tr_noteHoles_32 rfl hl0 ?_
          refine xr_aload_n C 0 d_Tr_noteHoles_33 rfl hl0 ?_
          refine xr_get (k := 1) C xg_Tr_15 hw1 (by decide) rfl d_Tr_noteHoles_34 ?_
          refine xr_iload_n C 1 d_Tr_noteHoles_37 rfl hl1 ?_
          refine xj_iald (k := 3) C (x) (by omega) hw3 (by decide) (by omega) (by decide) d_Tr_noteHoles_38 ?_
          refine xr_iload_n C 3 d_Tr_noteHoles_39 rfl hl3 ?_
          refine xr_callV (k9 := 1) C (m_Tr_holeCount (w := va_up w 9 (xIA (cA 0) 1800 hcI)) (hc := hcI) hw1 rfl (x := fs x) (h := (i : Int)) (by omega) (by omega)) xm_Tr_77 x2_Tr_holeCount hw1 (by decide) rfl (by decide) (by decide) (Nat.le_of_ble_eq_true rfl) rfl d_Tr_noteHoles_40 (fun En n9 ad9 w9 hx9 => hx9.elim) (fun v n9 ad9 w9 hp => ?_)
          obtain ⟨rfl, rfl, rfl, rfl⟩ := hp
          show XW _ _ _ _ _ _ 43 _ (_ :: _)
          refine xr_aload_n C 0 d_Tr_noteHoles_43 rfl hl0 ?_
          refine xr_aload_n C 0 d_Tr_noteHoles_44 rfl hl0 ?_
          refine xr_get (k := 1) C xg_Tr_18 hw1 (by decide) rfl d_Tr_noteHoles_45 ?_
          refine xr_iload_n C 1 d_Tr_noteHoles_48 rfl hl1 ?_
          refine xj_iald (k := 4) C (x) (by omega) hw4 (by decide) (by omega) (by decide) d_Tr_noteHoles_49 ?_
          refine xr_iload_n C 3 d_Tr_noteHoles_50 rfl hl3 ?_
          refine xr_callV (k9 := 1) C (m_Tr_holeCount (w := va_up w 9 (xIA (cA 0) 1800 hcI)) (hc := hcI) hw1 rfl (x := sn x) (h := (i : Int)) (by omega) (by omega)) xm_Tr_77 x2_Tr_holeCount hw1 (by decide) rfl (by decide) (by decide) (Nat.le_of_ble_eq_true rfl) rfl d_Tr_noteHoles_51 (fun En n9 ad9 w9 hx9 => hx9.elim) (fun v n9 ad9 w9 hp => ?_)
          obtain ⟨rfl, rfl, rfl, rfl⟩ := hp
          show XW _ _ _ _ _ _ 54 _ (_ :: _)
          refine xz_iadd C d_Tr_noteHoles_54 ?_
          refine xz_iadd C d_Tr_noteHoles_55 ?_
          have e1 : (if fs x < 0 then 0 else hcI (fs x * 6 + (i : Int)).toNat) = (if fs x < 0 then 0 else hc ((fs x).toNat * 6 + i)) := by
            split
            · rfl
            · rw [show (fs x * 6 + (i : Int)).toNat = (fs x).toNat * 6 + i by omega]
              exact hout _ (by omega)
          have e2 : (if sn x < 0 then 0 else hcI (sn x * 6 + (i : Int)).toNat) = (if sn x < 0 then 0 else hc ((sn x).toNat * 6 + i)) := by
            split
            · rfl
            · rw [show (sn x * 6 + (i : Int)).toNat = (sn x).toNat * 6 + i by omega]
              exact hout _ (by omega)
          refine xr_eqz (y := tmH mk fs sn hc x i) ?_ ?_
          · rw [e1, e2]
            simp only [tmH]
            first
              | (rw [if_pos (show mk x = 100 + (i : Int) by omega)]; omega)
              | (rw [if_neg (show ¬ mk x = 100 + (i : Int) by omega)]; omega)
          refine xr_istore C d_Tr_noteHoles_56 (by decide) ?_
          refine xr_aload_n C 0 d_Tr_noteHoles_58 rfl hl0 ?_
          refine xr_get (k := 1) C xg_Tr_33 hw1 (by decide) rfl d_Tr_noteHoles_59 ?_
          refine xr_iload_n C 1 d_Tr_noteHoles_62 rfl hl1 ?_
          refine xr_bipush C d_Tr_noteHoles_63 (by decide) ?_
          refine xz_imul C d_Tr_noteHoles_65 ?_
          refine xr_iload_n C 3 d_Tr_noteHoles_66 rfl hl3 ?_
          refine xz_iadd C d_Tr_noteHoles_67 ?_
          refine xr_iload C d_Tr_noteHoles_68 rfl ?_
          refine xj_iast (k := 9) C (x * 6 + i) (by omega) rfl (by decide) (by omega) (by decide) d_Tr_noteHoles_70 ?_
          refine xr_iload_n C 2 d_Tr_noteHoles_71 rfl hl2 ?_
          refine xr_iload C d_Tr_noteHoles_72 rfl ?_
          have htm : 0 ≤ tmH mk fs sn hc x i ∧ tmH mk fs sn hc x i ≤ 2001 := by
            have a1 := hhc ((fs x).toNat * 6 + i)
            have a2 := hhc ((sn x).toNat * 6 + i)
            unfold tmH
            constructor <;> (repeat' split) <;> omega
          refine xz_if_le (tgt := 83) C d_Tr_noteHoles_74 (by decide) (by omega) (fun c74 => ?_) (fun c74 => ?_)
          · skip
            refine xr_iconst C d_Tr_noteHoles_83 ?_
            refine xr_ior C d_Tr_noteHoles_84 ?_
            first
              | rw [zI_orp (by omega) (hbS_in _ i)]
              | rw [zI_or0]
            refine xr_eqz (y := hbS (fun h => decide (0 < tmH mk fs sn hc x h)) (i + 1)) (by
              simp only [hbS]
              first
                | rw [if_pos (by simp; omega)]
                | rw [if_neg (by simp; omega), Int.add_zero]) ?_
            refine xr_istore_n C 2 d_Tr_noteHoles_85 rfl (by decide) ?_
            refine xr_iinc C d_Tr_noteHoles_86 (by decide) hl3 ?_
            refine xr_goto (tgt := 4) C d_Tr_noteHoles_89 (by decide) ?_
            rw [bx_uu]
            exact ih (i + 1) _ _ (by omega) (by omega) hl0 hl1 rfl rfl (fun h h1 => by
              by_cases e : h = i
              · rw [e]; simp [va_up]
              · simp [va_up, e]
                exact hin h (by omega)) (fun j hj => by
              simp [va_up, show j ≠ x * 6 + i by omega]
              exact hout j hj)
          · skip
            refine xr_iconst C d_Tr_noteHoles_77 ?_
            refine xr_iload_n C 3 d_Tr_noteHoles_78 rfl hl3 ?_
            refine xr_ishl C d_Tr_noteHoles_79 ?_
            rw [zI_shl1 (by omega)]
            refine xr_goto (tgt := 84) C d_Tr_noteHoles_80 (by decide) ?_
            refine xr_ior C d_Tr_noteHoles_84 ?_
            first
              | rw [zI_orp (by omega) (hbS_in _ i)]
              | rw [zI_or0]
            refine xr_eqz (y := hbS (fun h => decide (0 < tmH mk fs sn hc x h)) (i + 1)) (by
              simp only [hbS]
              first
                | rw [if_pos (by simp; omega)]
                | rw [if_neg (by simp; omega), Int.add_zero]) ?_
            refine xr_istore_n C 2 d_Tr_noteHoles_85 rfl (by decide) ?_
            refine xr_iinc C d_Tr_noteHoles_86 (by decide) hl3 ?_
            refine xr_goto (tgt := 4) C d_Tr_noteHoles_89 (by decide) ?_
            rw [bx_uu]
            exact ih (i + 1) _ _ (by omega) (by omega) hl0 hl1 rfl rfl (fun h h1 => by
              by_cases e : h = i
              · rw [e]; simp [va_up]
              · simp [va_up, e]
                exact hin h (by omega)) (fun j hj => by
              simp [va_up, show j ≠ x * 6 + i by omega]
              exact hout j hj)
  refine xr_iconst C d_Tr_noteHoles_0 ?_
  refine xr_istore_n C 2 d_Tr_noteHoles_1 rfl (by decide) ?_
  refine xr_iconst C d_Tr_noteHoles_2 ?_
  refine xr_istore_n C 3 d_Tr_noteHoles_3 rfl (by decide) ?_
  have hid : w = va_up w 9 (xIA (cA 0) 1800 hc) := by
    funext j
    by_cases hj : j = 9
    · rw [hj, hw9]; simp [va_up]
    · simp [va_up, hj]
  rw [hid]
  exact lp 7 0 hc _ (by omega) (by omega) rfl rfl rfl rfl (fun h h1 => by omega) (fun j _ => rfl)
