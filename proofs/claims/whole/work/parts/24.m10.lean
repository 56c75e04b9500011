set_option maxHeartbeats 4000000 in
set_option maxRecDepth 100000 in
theorem m_Md_ask {L : Launch} {D : va_G} {cA : Nat → ClassId} {base : Nat} {ad : Nat → Nat} {w : Nat → va_E} {S : xS} {s a b e ru ro sp nr ns th : Int} {se fa so : Bool} (hMT : MT ad cA w S ru ro sp nr ns th se fa so) (hT : Tb S) (hs : shp s a b (sN S)) : XM L D cA base y_Md_ask c_Md_ask 6 (some .int) (xrm 2 0 0) [.ref (ad 29), .int (zI s), .int (zI a), .int (zI b), .int (zI e)] 56 ad w (xRet 56 ad (fun y w' => ∃ (S' : xS) (z : Int), (z, S') = mkT S s a b ∧ y = (if z < 0 then 0 else z) ∧ MT ad cA w' S' ru ro sp nr ns (if z < 0 then e else 0) se (decide (z < 0)) so ∧ (∀ k, (k < 29 ∨ 36 < k) → w' k = w k))) xF := by
  refine xm_of (by decide +kernel) (by simp [Value.category]) (Nat.le_of_ble_eq_true rfl) (fun G C E _ => ?_)
  obtain ⟨sg, fs, sn, wt, pl, dp, ho, hw29, hw30, hw31, hw32, hw33, hw34, hw35, hw36, hA⟩ := hMT
  refine xr_aload_n C 0 d_Md_ask_0 rfl rfl ?_
  refine xr_iconst C d_Md_ask_1 ?_
  refine xr_put (k := 29) C xf_Md_97 hw29 (by decide) (by decide) (by decide) (Nat.le_of_ble_eq_true rfl) d_Md_ask_2 ?_
  refine xr_aload_n C 0 d_Md_ask_5 rfl rfl ?_
  refine xr_iload_n C 1 d_Md_ask_6 rfl rfl ?_
  refine xr_iload_n C 2 d_Md_ask_7 rfl rfl ?_
  refine xr_iload_n C 3 d_Md_ask_8 rfl rfl ?_
  refine xr_callV (k9 := 29) C (m_Md_tree (w := va_up w 29 (mdO ad (sN S : Int) ru ro sp nr ns th se false so)) (S := S) (fa := false) ⟨sg, fs, sn, wt, pl, dp, ho, rfl, hw30, hw31, hw32, hw33, hw34, hw35, hw36, hA⟩ hT hs) xm_Md_101 x2_Md_tree rfl (by decide) rfl (by decide) (by decide) (Nat.le_of_ble_eq_true rfl) rfl d_Md_ask_9 (fun En n9 ad9 w9 hx9 => hx9.elim) (fun v n9 ad9 w9 hp => ?_)
  obtain ⟨rfl, rfl, z, rfl, S', hz, hMT', hfr⟩ := hp
  obtain ⟨hT', hz1, hz2, hz3⟩ := mkT_pos hT hs hz
  have hN' := hT'.1
  obtain ⟨sg', fs', sn', wt', pl', dp', ho', hw29, hw30, hw31, hw32, hw33, hw34, hw35, hw36, hA'⟩ := hMT'
  rw [Bool.false_or] at hw29
  show XW _ _ _ _ _ _ 12 _ (_ :: _)
  refine xr_istore C d_Md_ask_12 (by decide) ?_
  refine xr_aload_n C 0 d_Md_ask_14 rfl rfl ?_
  refine xr_aload_n C 0 d_Md_ask_15 rfl rfl ?_
  refine xr_get (k := 29) C xg_Md_97 hw29 (by decide) rfl d_Md_ask_16 ?_
  refine xb_if_eq (tgt := 27) C d_Md_ask_19 (by decide)  (fun c19 => ?_) (fun c19 => ?_)
  · skip
    have hzp : ¬ z < 0 := of_decide_eq_false c19
    refine xr_iconst C d_Md_ask_27 ?_
    refine xr_put (k := 29) C xf_Md_86 hw29 (by decide) rfl rfl (Nat.le_of_ble_eq_true rfl) d_Md_ask_28 ?_
    refine xr_aload_n C 0 d_Md_ask_31 rfl rfl ?_
    refine xr_get (k := 29) C xg_Md_97 rfl (by decide) rfl d_Md_ask_32 ?_
    refine xb_if_eq (tgt := 42) C d_Md_ask_35 (by decide)  (fun c35 => ?_) (fun c35 => ?_)
    · skip
      have hzp9 : ¬ z < 0 := of_decide_eq_false c35
      refine xr_iload C d_Md_ask_42 rfl ?_
      first | skip
      exact xr_iret C E ⟨rfl, rfl, _, rfl, S', z, hz, by split <;> omega, ⟨sg', fs', sn', wt', pl', dp', ho', by first | (exfalso; omega) | (rw [if_pos (by omega)]; rfl) | (rw [if_neg (by omega)]; rfl), hw30, hw31, hw32, hw33, hw34, hw35, hw36, hA'⟩, fun k hk => (va_ne (by omega)).trans ((hfr k hk).trans (va_ne (by omega)))⟩ (by decide) (by decide) d_Md_ask_44
    · skip
      have hzn9 : z < 0 := of_decide_eq_true c35
      refine xr_iconst C d_Md_ask_38 ?_
      refine xr_goto (tgt := 44) C d_Md_ask_39 (by decide) ?_
      first | skip
      exact xr_iret C E ⟨rfl, rfl, _, rfl, S', z, hz, by split <;> omega, ⟨sg', fs', sn', wt', pl', dp', ho', by first | (exfalso; omega) | (rw [if_pos (by omega)]; rfl) | (rw [if_neg (by omega)]; rfl), hw30, hw31, hw32, hw33, hw34, hw35, hw36, hA'⟩, fun k hk => (va_ne (by omega)).trans ((hfr k hk).trans (va_ne (by omega)))⟩ (by decide) (by decide) d_Md_ask_44
  · skip
    have hzn : z < 0 := of_decide_eq_true c19
    refine xr_iload C d_Md_ask_22 rfl ?_
    refine xr_goto (tgt := 28) C d_Md_ask_24 (by decide) ?_
    refine xr_put (k := 29) C xf_Md_86 hw29 (by decide) rfl rfl (Nat.le_of_ble_eq_true rfl) d_Md_ask_28 ?_
    refine xr_aload_n C 0 d_Md_ask_31 rfl rfl ?_
    refine xr_get (k := 29) C xg_Md_97 rfl (by decide) rfl d_Md_ask_32 ?_
    refine xb_if_eq (tgt := 42) C d_Md_ask_35 (by decide)  (fun c35 => ?_) (fun c35 => ?_)
    · skip
      have hzp9 : ¬ z < 0 := of_decide_eq_false c35
      refine xr_iload C d_Md_ask_42 rfl ?_
      first | skip
      exact xr_iret C E ⟨rfl, rfl, _, rfl, S', z, hz, by split <;> omega, ⟨sg', fs', sn', wt', pl', dp', ho', by first | (exfalso; omega) | (rw [if_pos (by omega)]; rfl) | (rw [if_neg (by omega)]; rfl), hw30, hw31, hw32, hw33, hw34, hw35, hw36, hA'⟩, fun k hk => (va_ne (by omega)).trans ((hfr k hk).trans (va_ne (by omega)))⟩ (by decide) (by decide) d_Md_ask_44
    · skip
      have hzn9 : z < 0 := of_decide_eq_true c35
      refine xr_iconst C d_Md_ask_38 ?_
      refine xr_goto (tgt := 44) C d_Md_ask_39 (by decide) ?_
      first | skip
      exact xr_iret C E ⟨rfl, rfl, _, rfl, S', z, hz, by split <;> omega, ⟨sg', fs', sn', wt', pl', dp', ho', by first | (exfalso; omega) | (rw [if_pos (by omega)]; rfl) | (rw [if_neg (by omega)]; rfl), hw30, hw31, hw32, hw33, hw34, hw35, hw36, hA'⟩, fun k hk => (va_ne (by omega)).trans ((hfr k hk).trans (va_ne (by omega)))⟩ (by decide) (by decide) d_Md_ask_44
set_option maxHeartbeats 4000000 in
set_option maxRecDepth 100000 in
theorem m_Md_spent {L : Launch} {D : va_G} {cA : Nat → ClassId} {base : Nat} {ad : Nat → Nat} {w : Nat → va_E} {tr ru ro sp nr ns th : Int} {se fa so : Bool} (hw29 : w 29 = mdO ad tr ru ro sp nr ns th se fa so) : XM L D cA base y_Md_spent c_Md_spent 1 (some .boolean) (xrm 0 0 0) [.ref (ad 29)] 56 ad w (xRet 56 ad (fun z w' => z = xb se ∧ w' = va_up w 29 (mdO ad tr ru ro sp nr ns 0 se fa so))) xF := by
  refine xm_of (by decide +kernel) (by simp [Value.category]) (Nat.le_of_ble_eq_true rfl) (fun G C E _ => ?_)
  refine xr_aload_n C 0 d_Md_spent_0 rfl rfl ?_
  refine xr_iconst C d_Md_spent_1 ?_
  refine xr_put (k := 29) C xf_Md_86 hw29 (by decide) rfl rfl (Nat.le_of_ble_eq_true rfl) d_Md_spent_2 ?_
  refine xr_aload_n C 0 d_Md_spent_5 rfl rfl ?_
  refine xr_get (k := 29) C xg_Md_186 rfl (by decide) rfl d_Md_spent_6 ?_
  exact xr_zret C E xb_01 ⟨rfl, rfl, _, rfl, rfl, rfl⟩ (by decide) (by decide) d_Md_spent_9
set_option maxHeartbeats 4000000 in
set_option maxRecDepth 100000 in
theorem m_Md_steps {L : Launch} {D : va_G} {cA : Nat → ClassId} {base : Nat} {ad : Nat → Nat} {w : Nat → va_E} {tr ru ro sp nr ns th : Int} {se fa so : Bool} (hw29 : w 29 = mdO ad tr ru ro sp nr ns th se fa so) : XM L D cA base y_Md_steps c_Md_steps 1 (some .int) (xrm 0 0 0) [.ref (ad 29)] 56 ad w (xRet 56 ad (fun z w' => z = sp ∧ w' = va_up w 29 (mdO ad tr ru ro sp nr ns 0 se fa so))) xF := by
  refine xm_of (by decide +kernel) (by simp [Value.category]) (Nat.le_of_ble_eq_true rfl) (fun G C E _ => ?_)
  refine xr_aload_n C 0 d_Md_steps_0 rfl rfl ?_
  refine xr_iconst C d_Md_steps_1 ?_
  refine xr_put (k := 29) C xf_Md_86 hw29 (by decide) rfl rfl (Nat.le_of_ble_eq_true rfl) d_Md_steps_2 ?_
  refine xr_aload_n C 0 d_Md_steps_5 rfl rfl ?_
  refine xr_get (k := 29) C xg_Md_173 rfl (by decide) rfl d_Md_steps_6 ?_
  exact xr_iret C E ⟨rfl, rfl, _, rfl, rfl, rfl⟩ (by decide) (by decide) d_Md_steps_9
set_option maxHeartbeats 4000000 in
set_option maxRecDepth 100000 in
theorem m_Md_count {L : Launch} {D : va_G} {cA : Nat → ClassId} {base : Nat} {ad : Nat → Nat} {w : Nat → va_E} {tr ru ro sp nr ns th : Int} {se fa so : Bool} (hw29 : w 29 = mdO ad tr ru ro sp nr ns th se fa so) {x : Int} (hx : -2147483648 ≤ x ∧ x < 2147483648) : XM L D cA base y_Md_count c_Md_count 2 (some .int) (xrm 0 0 0) [.ref (ad 29), .int (zI x)] 56 ad w (xRet 56 ad (fun z w' => z = (if x = 0 then tr else if x = 1 then ru else if x = 2 then ro else -1) ∧ w' = va_up w 29 (mdO ad tr ru ro sp nr ns 0 se fa so))) xF := by
  refine xm_of (by decide +kernel) (by simp [Value.category]) (Nat.le_of_ble_eq_true rfl) (fun G C E _ => ?_)
  refine xr_aload_n C 0 d_Md_count_0 rfl rfl ?_
  refine xr_iconst C d_Md_count_1 ?_
  refine xr_put (k := 29) C xf_Md_86 hw29 (by decide) rfl rfl (Nat.le_of_ble_eq_true rfl) d_Md_count_2 ?_
  refine xr_iload_n C 1 d_Md_count_5 rfl rfl ?_
  refine xz_if_ne (tgt := 16) C d_Md_count_6 (by decide) (by omega) (fun c6 => ?_) (fun c6 => ?_)
  · skip
    refine xr_iload_n C 1 d_Md_count_16 rfl rfl ?_
    refine xr_iconst C d_Md_count_17 ?_
    refine xz_icmp_ne (tgt := 28) C d_Md_count_18 (by decide) (by omega) (by omega) (fun c18 => ?_) (fun c18 => ?_)
    · skip
      refine xr_iload_n C 1 d_Md_count_28 rfl rfl ?_
      refine xr_iconst C d_Md_count_29 ?_
      refine xz_icmp_ne (tgt := 40) C d_Md_count_30 (by decide) (by omega) (by omega) (fun c30 => ?_) (fun c30 => ?_)
      · skip
        refine xr_iconst C d_Md_count_40 ?_
        exact xr_iret C E ⟨rfl, rfl, _, rfl, by repeat' split; all_goals omega, rfl⟩ (by decide) (by decide) d_Md_count_41
      · skip
        refine xr_aload_n C 0 d_Md_count_33 rfl rfl ?_
        refine xr_get (k := 29) C xg_Md_170 rfl (by decide) rfl d_Md_count_34 ?_
        refine xr_goto (tgt := 41) C d_Md_count_37 (by decide) ?_
        exact xr_iret C E ⟨rfl, rfl, _, rfl, by repeat' split; all_goals omega, rfl⟩ (by decide) (by decide) d_Md_count_41
    · skip
      refine xr_aload_n C 0 d_Md_count_21 rfl rfl ?_
      refine xr_get (k := 29) C xg_Md_129 rfl (by decide) rfl d_Md_count_22 ?_
      refine xr_goto (tgt := 41) C d_Md_count_25 (by decide) ?_
      exact xr_iret C E ⟨rfl, rfl, _, rfl, by repeat' split; all_goals omega, rfl⟩ (by decide) (by decide) d_Md_count_41
  · skip
    refine xr_aload_n C 0 d_Md_count_9 rfl rfl ?_
    refine xr_get (k := 29) C xg_Md_90 rfl (by decide) rfl d_Md_count_10 ?_
    refine xr_goto (tgt := 41) C d_Md_count_13 (by decide) ?_
    exact xr_iret C E ⟨rfl, rfl, _, rfl, by repeat' split; all_goals omega, rfl⟩ (by decide) (by decide) d_Md_count_41
set_option maxHeartbeats 4000000 in
set_option maxRecDepth 100000 in
theorem m_Md_head {L : Launch} {D : va_G} {cA : Nat → ClassId} {base : Nat} {ad : Nat → Nat} {w : Nat → va_E} {tr ru ro sp nr ns th : Int} {se fa so : Bool} (hw29 : w 29 = mdO ad tr ru ro sp nr ns th se fa so) (htr : 0 ≤ tr ∧ tr ≤ 300) {sg : Nat → Int} (hw30 : w 30 = xIA (cA 0) 300 sg) (hsg : ∀ j, 0 ≤ sg j ∧ sg j ≤ 300) {x : Int} (hx : -2147483648 ≤ x ∧ x < 2147483648) : XM L D cA base y_Md_head c_Md_head 2 (some .int) (xrm 1 0 0) [.ref (ad 29), .int (zI x)] 56 ad w (xRet 56 ad (fun z w' => ((0 ≤ x ∧ x < tr) ∧ z = um (sg x.toNat) ∧ w' = va_up w 29 (mdO ad tr ru ro sp nr ns 0 se fa so)) ∨ ((¬ (0 ≤ x ∧ x < tr)) ∧ z = 0 ∧ w' = va_up w 29 (mdO ad tr ru ro sp nr ns 1 se fa so)))) xF := by
  refine xm_of (by decide +kernel) (by simp [Value.category]) (Nat.le_of_ble_eq_true rfl) (fun G C E _ => ?_)
  refine xr_aload_n C 0 d_Md_head_0 rfl rfl ?_
  refine xr_aload_n C 0 d_Md_head_1 rfl rfl ?_
  refine xr_iload_n C 1 d_Md_head_2 rfl rfl ?_
  refine xr_callV (k9 := 29) C (m_Md_isTree hw29 htr (x := x) (by omega)) xm_Md_109 x2_Md_isTree hw29 (by decide) rfl (by decide) (by decide) (Nat.le_of_ble_eq_true rfl) rfl d_Md_head_3 (fun En n9 ad9 w9 hx9 => hx9.elim) (fun v n9 ad9 w9 hp => ?_)
  obtain ⟨rfl, rfl, rfl, rfl⟩ := hp
  show XW _ _ _ _ _ _ 6 _ (_ :: _)
  refine xb_if_eq (tgt := 13) C d_Md_head_6 (by decide)  (fun c6 => ?_) (fun c6 => ?_)
  · skip
    have b6 : ¬ (0 ≤ x ∧ x < tr) := of_decide_eq_false c6
    refine xr_iconst C d_Md_head_13 ?_
    refine xr_put (k := 29) C xf_Md_86 hw29 (by decide) rfl rfl (Nat.le_of_ble_eq_true rfl) d_Md_head_14 ?_
    refine xr_aload_n C 0 d_Md_head_17 rfl rfl ?_
    refine xr_get (k := 29) C xg_Md_86 rfl (by decide) rfl d_Md_head_18 ?_
    refine xz_if_eq (tgt := 26) C d_Md_head_21 (by decide) (by omega) (fun c21 => by exfalso; omega) (fun c21 => ?_)
    refine xr_iconst C d_Md_head_24 ?_
    exact xr_iret C E ⟨rfl, rfl, _, rfl, Or.inr ⟨by omega, rfl, rfl⟩⟩ (by decide) (by decide) d_Md_head_25
  · skip
    have b6 : (0 ≤ x ∧ x < tr) := of_decide_eq_true c6
    refine xr_iconst C d_Md_head_9 ?_
    refine xr_goto (tgt := 14) C d_Md_head_10 (by decide) ?_
    refine xr_put (k := 29) C xf_Md_86 hw29 (by decide) rfl rfl (Nat.le_of_ble_eq_true rfl) d_Md_head_14 ?_
    refine xr_aload_n C 0 d_Md_head_17 rfl rfl ?_
    refine xr_get (k := 29) C xg_Md_86 rfl (by decide) rfl d_Md_head_18 ?_
    refine xz_if_eq (tgt := 26) C d_Md_head_21 (by decide) (by omega) (fun c21 => ?_) (fun c21 => by exfalso; omega)
    refine xr_aload_n C 0 d_Md_head_26 rfl rfl ?_
    refine xr_get (k := 29) C xg_Md_7 rfl (by decide) rfl d_Md_head_27 ?_
    refine xr_iload_n C 1 d_Md_head_30 rfl rfl ?_
    refine xz_iald (k := 30) C hw30 (by decide) (by omega) (by decide) d_Md_head_31 ?_
    refine xr_sipush C d_Md_head_32 (by decide) ?_
    have hsx := hsg x.toNat
    refine xz_icmp_lt (tgt := 54) C d_Md_head_35 (by decide) (by omega) (by omega) (fun c35 => ?_) (fun c35 => ?_)
    · skip
      refine xr_aload_n C 0 d_Md_head_54 rfl rfl ?_
      refine xr_get (k := 29) C xg_Md_7 rfl (by decide) rfl d_Md_head_55 ?_
      refine xr_iload_n C 1 d_Md_head_58 rfl rfl ?_
      refine xz_iald (k := 30) C hw30 (by decide) (by omega) (by decide) d_Md_head_59 ?_
      refine xr_bipush C d_Md_head_60 (by decide) ?_
      refine xz_icmp_lt (tgt := 79) C d_Md_head_62 (by decide) (by omega) (by omega) (fun c62 => ?_) (fun c62 => ?_)
      · skip
        refine xr_aload_n C 0 d_Md_head_79 rfl rfl ?_
        refine xr_get (k := 29) C xg_Md_7 rfl (by decide) rfl d_Md_head_80 ?_
        refine xr_iload_n C 1 d_Md_head_83 rfl rfl ?_
        refine xz_iald (k := 30) C hw30 (by decide) (by omega) (by decide) d_Md_head_84 ?_
        exact xr_iret C E ⟨rfl, rfl, _, rfl, Or.inl ⟨by omega, by unfold um; repeat' split; all_goals omega, rfl⟩⟩ (by decide) (by decide) d_Md_head_85
      · skip
        refine xr_iconst C d_Md_head_65 ?_
        refine xr_aload_n C 0 d_Md_head_66 rfl rfl ?_
        refine xr_get (k := 29) C xg_Md_7 rfl (by decide) rfl d_Md_head_67 ?_
        refine xr_iload_n C 1 d_Md_head_70 rfl rfl ?_
        refine xz_iald (k := 30) C hw30 (by decide) (by omega) (by decide) d_Md_head_71 ?_
        refine xr_bipush C d_Md_head_72 (by decide) ?_
        refine xz_isub C d_Md_head_74 ?_
        refine xz_isub C d_Md_head_75 ?_
        refine xr_goto (tgt := 85) C d_Md_head_76 (by decide) ?_
        exact xr_iret C E ⟨rfl, rfl, _, rfl, Or.inl ⟨by omega, by unfold um; repeat' split; all_goals omega, rfl⟩⟩ (by decide) (by decide) d_Md_head_85
    · skip
      refine xr_bipush C d_Md_head_38 (by decide) ?_
      refine xr_aload_n C 0 d_Md_head_40 rfl rfl ?_
      refine xr_get (k := 29) C xg_Md_7 rfl (by decide) rfl d_Md_head_41 ?_
      refine xr_iload_n C 1 d_Md_head_44 rfl rfl ?_
      refine xz_iald (k := 30) C hw30 (by decide) (by omega) (by decide) d_Md_head_45 ?_
      refine xz_iadd C d_Md_head_46 ?_
      refine xr_sipush C d_Md_head_47 (by decide) ?_
      refine xz_isub C d_Md_head_50 ?_
      refine xr_goto (tgt := 85) C d_Md_head_51 (by decide) ?_
      exact xr_iret C E ⟨rfl, rfl, _, rfl, Or.inl ⟨by omega, by unfold um; repeat' split; all_goals omega, rfl⟩⟩ (by decide) (by decide) d_Md_head_85
set_option maxHeartbeats 4000000 in
set_option maxRecDepth 100000 in
theorem m_Md_measure {L : Launch} {D : va_G} {cA : Nat → ClassId} {base : Nat} {ad : Nat → Nat} {w : Nat → va_E} {tr ru ro sp nr ns th : Int} {se fa so : Bool} (hw29 : w 29 = mdO ad tr ru ro sp nr ns th se fa so) (htr : 0 ≤ tr ∧ tr ≤ 300) {wt pl dp ho : Nat → Int} (hw33 : w 33 = xIA (cA 0) 300 wt) (hw34 : w 34 = xIA (cA 0) 300 pl) (hw35 : w 35 = xIA (cA 0) 300 dp) (hw36 : w 36 = xIA (cA 0) 300 ho) {x : Int} (hx : -2147483648 ≤ x ∧ x < 2147483648) {y : Int} (hy : -2147483648 ≤ y ∧ y < 2147483648) : XM L D cA base y_Md_measure c_Md_measure 3 (some .int) (xrm 1 0 0) [.ref (ad 29), .int (zI x), .int (zI y)] 56 ad w (xRet 56 ad (fun z w' => ((0 ≤ x ∧ x < tr) ∧ (0 ≤ y ∧ y < 4) ∧ z = (if y = 0 then wt x.toNat else if y = 1 then pl x.toNat else if y = 2 then dp x.toNat else ho x.toNat) ∧ w' = va_up w 29 (mdO ad tr ru ro sp nr ns 0 se fa so)) ∨ ((¬ (0 ≤ x ∧ x < tr)) ∧ z = 0 ∧ w' = va_up w 29 (mdO ad tr ru ro sp nr ns 1 se fa so)) ∨ (((0 ≤ x ∧ x < tr) ∧ ¬ (0 ≤ y ∧ y < 4)) ∧ z = 0 ∧ w' = va_up w 29 (mdO ad tr ru ro sp nr ns 2 se fa so)))) xF := by
  refine xm_of (by decide +kernel) (by simp [Value.category]) (Nat.le_of_ble_eq_true rfl) (fun G C E _ => ?_)
  refine xr_aload_n C 0 d_Md_measure_0 rfl rfl ?_
  refine xr_aload_n C 0 d_Md_measure_1 rfl rfl ?_
  refine xr_iload_n C 1 d_Md_measure_2 rfl rfl ?_
  refine xr_callV (k9 := 29) C (m_Md_isTree hw29 htr (x := x) (by omega)) xm_Md_109 x2_Md_isTree hw29 (by decide) rfl (by decide) (by decide) (Nat.le_of_ble_eq_true rfl) rfl d_Md_measure_3 (fun En n9 ad9 w9 hx9 => hx9.elim) (fun v n9 ad9 w9 hp => ?_)
  obtain ⟨rfl, rfl, rfl, rfl⟩ := hp
  show XW _ _ _ _ _ _ 6 _ (_ :: _)
  refine xb_if_ne (tgt := 13) C d_Md_measure_6 (by decide)  (fun c6 => ?_) (fun c6 => ?_)
  · skip
    have b6 : (0 ≤ x ∧ x < tr) := of_decide_eq_true c6
    refine xr_iload_n C 2 d_Md_measure_13 rfl rfl ?_
    refine xz_if_lt (tgt := 22) C d_Md_measure_14 (by decide) (by omega) (fun c14 => ?_) (fun c14 => ?_)
    · skip
      refine xr_iconst C d_Md_measure_22 ?_
      refine xr_goto (tgt := 27) C d_Md_measure_23 (by decide) ?_
      refine xr_put (k := 29) C xf_Md_86 hw29 (by decide) rfl rfl (Nat.le_of_ble_eq_true rfl) d_Md_measure_27 ?_
      refine xr_aload_n C 0 d_Md_measure_30 rfl rfl ?_
      refine xr_get (k := 29) C xg_Md_86 rfl (by decide) rfl d_Md_measure_31 ?_
      refine xz_if_eq (tgt := 39) C d_Md_measure_34 (by decide) (by omega) (fun c34 => by exfalso; omega) (fun c34 => ?_)
      refine xr_iconst C d_Md_measure_37 ?_
      exact xr_iret C E ⟨rfl, rfl, _, rfl, by first | exact Or.inr (Or.inl ⟨by omega, rfl, rfl⟩) | exact Or.inr (Or.inr ⟨by omega, rfl, rfl⟩)⟩ (by decide) (by decide) d_Md_measure_38
    · skip
      refine xr_iload_n C 2 d_Md_measure_17 rfl rfl ?_
      refine xr_iconst C d_Md_measure_18 ?_
      refine xz_icmp_le (tgt := 26) C d_Md_measure_19 (by decide) (by omega) (by omega) (fun c19 => ?_) (fun c19 => ?_)
      · skip
        refine xr_iconst C d_Md_measure_26 ?_
        refine xr_put (k := 29) C xf_Md_86 hw29 (by decide) rfl rfl (Nat.le_of_ble_eq_true rfl) d_Md_measure_27 ?_
        refine xr_aload_n C 0 d_Md_measure_30 rfl rfl ?_
        refine xr_get (k := 29) C xg_Md_86 rfl (by decide) rfl d_Md_measure_31 ?_
        refine xz_if_eq (tgt := 39) C d_Md_measure_34 (by decide) (by omega) (fun c34 => ?_) (fun c34 => by exfalso; omega)
        refine xr_iload_n C 2 d_Md_measure_39 rfl rfl ?_
        refine xz_if_ne (tgt := 52) C d_Md_measure_40 (by decide) (by omega) (fun c40 => ?_) (fun c40 => ?_)
        · skip
          refine xr_iload_n C 2 d_Md_measure_52 rfl rfl ?_
          refine xr_iconst C d_Md_measure_53 ?_
          refine xz_icmp_ne (tgt := 66) C d_Md_measure_54 (by decide) (by omega) (by omega) (fun c54 => ?_) (fun c54 => ?_)
          · skip
            refine xr_iload_n C 2 d_Md_measure_66 rfl rfl ?_
            refine xr_iconst C d_Md_measure_67 ?_
            refine xz_icmp_ne (tgt := 80) C d_Md_measure_68 (by decide) (by omega) (by omega) (fun c68 => ?_) (fun c68 => ?_)
            · skip
              refine xr_aload_n C 0 d_Md_measure_80 rfl rfl ?_
              refine xr_get (k := 29) C xg_Md_28 rfl (by decide) rfl d_Md_measure_81 ?_
              refine xr_iload_n C 1 d_Md_measure_84 rfl rfl ?_
              refine xz_iald (k := 36) C hw36 (by decide) (by omega) (by decide) d_Md_measure_85 ?_
              exact xr_iret C E ⟨rfl, rfl, _, rfl, Or.inl ⟨by omega, by omega, by repeat' split; all_goals first | rfl | omega, rfl⟩⟩ (by decide) (by decide) d_Md_measure_86
            · skip
              refine xr_aload_n C 0 d_Md_measure_71 rfl rfl ?_
              refine xr_get (k := 29) C xg_Md_25 rfl (by decide) rfl d_Md_measure_72 ?_
              refine xr_iload_n C 1 d_Md_measure_75 rfl rfl ?_
              refine xz_iald (k := 35) C hw35 (by decide) (by omega) (by decide) d_Md_measure_76 ?_
              refine xr_goto (tgt := 86) C d_Md_measure_77 (by decide) ?_
              exact xr_iret C E ⟨rfl, rfl, _, rfl, Or.inl ⟨by omega, by omega, by repeat' split; all_goals first | rfl | omega, rfl⟩⟩ (by decide) (by decide) d_Md_measure_86
          · skip
            refine xr_aload_n C 0 d_Md_measure_57 rfl rfl ?_
            refine xr_get (k := 29) C xg_Md_22 rfl (by decide) rfl d_Md_measure_58 ?_
            refine xr_iload_n C 1 d_Md_measure_61 rfl rfl ?_
            refine xz_iald (k := 34) C hw34 (by decide) (by omega) (by decide) d_Md_measure_62 ?_
            refine xr_goto (tgt := 86) C d_Md_measure_63 (by decide) ?_
            exact xr_iret C E ⟨rfl, rfl, _, rfl, Or.inl ⟨by omega, by omega, by repeat' split; all_goals first | rfl | omega, rfl⟩⟩ (by decide) (by decide) d_Md_measure_86
        · skip
          refine xr_aload_n C 0 d_Md_measure_43 rfl rfl ?_
          refine xr_get (k := 29) C xg_Md_19 rfl (by decide) rfl d_Md_measure_44 ?_
          refine xr_iload_n C 1 d_Md_measure_47 rfl rfl ?_
          refine xz_iald (k := 33) C hw33 (by decide) (by omega) (by decide) d_Md_measure_48 ?_
          refine xr_goto (tgt := 86) C d_Md_measure_49 (by decide) ?_
          exact xr_iret C E ⟨rfl, rfl, _, rfl, Or.inl ⟨by omega, by omega, by repeat' split; all_goals first | rfl | omega, rfl⟩⟩ (by decide) (by decide) d_Md_measure_86
      · skip
        refine xr_iconst C d_Md_measure_22 ?_
        refine xr_goto (tgt := 27) C d_Md_measure_23 (by decide) ?_
        refine xr_put (k := 29) C xf_Md_86 hw29 (by decide) rfl rfl (Nat.le_of_ble_eq_true rfl) d_Md_measure_27 ?_
        refine xr_aload_n C 0 d_Md_measure_30 rfl rfl ?_
        refine xr_get (k := 29) C xg_Md_86 rfl (by decide) rfl d_Md_measure_31 ?_
        refine xz_if_eq (tgt := 39) C d_Md_measure_34 (by decide) (by omega) (fun c34 => by exfalso; omega) (fun c34 => ?_)
        refine xr_iconst C d_Md_measure_37 ?_
        exact xr_iret C E ⟨rfl, rfl, _, rfl, by first | exact Or.inr (Or.inl ⟨by omega, rfl, rfl⟩) | exact Or.inr (Or.inr ⟨by omega, rfl, rfl⟩)⟩ (by decide) (by decide) d_Md_measure_38
  · skip
    have b6 : ¬ (0 ≤ x ∧ x < tr) := of_decide_eq_false c6
    refine xr_iconst C d_Md_measure_9 ?_
    refine xr_goto (tgt := 27) C d_Md_measure_10 (by decide) ?_
    refine xr_put (k := 29) C xf_Md_86 hw29 (by decide) rfl rfl (Nat.le_of_ble_eq_true rfl) d_Md_measure_27 ?_
    refine xr_aload_n C 0 d_Md_measure_30 rfl rfl ?_
    refine xr_get (k := 29) C xg_Md_86 rfl (by decide) rfl d_Md_measure_31 ?_
    refine xz_if_eq (tgt := 39) C d_Md_measure_34 (by decide) (by omega) (fun c34 => by exfalso; omega) (fun c34 => ?_)
    refine xr_iconst C d_Md_measure_37 ?_
    exact xr_iret C E ⟨rfl, rfl, _, rfl, by first | exact Or.inr (Or.inl ⟨by omega, rfl, rfl⟩) | exact Or.inr (Or.inr ⟨by omega, rfl, rfl⟩)⟩ (by decide) (by decide) d_Md_measure_38
set_option maxHeartbeats 4000000 in
set_option maxRecDepth 100000 in
theorem m_Md_row {L : Launch} {D : va_G} {cA : Nat → ClassId} {base : Nat} {ad : Nat → Nat} {w : Nat → va_E} {tr ru ro sp nr ns th : Int} {se fa so : Bool} (hw29 : w 29 = mdO ad tr ru ro sp nr ns th se fa so) (hro : 0 ≤ ro ∧ ro ≤ 200) {f : Nat → Int} (hw42 : w 42 = xIA (cA 0) 800 f) {x : Int} (hx : -2147483648 ≤ x ∧ x < 2147483648) {y : Int} (hy : -2147483648 ≤ y ∧ y < 2147483648) : XM L D cA base y_Md_row c_Md_row 3 (some .int) (xrm 0 0 0) [.ref (ad 29), .int (zI x), .int (zI y)] 56 ad w (xRet 56 ad (fun z w' => ((0 ≤ x ∧ x < ro) ∧ (0 ≤ y ∧ y < 4) ∧ z = f (4 * x + y).toNat ∧ w' = va_up w 29 (mdO ad tr ru ro sp nr ns 0 se fa so)) ∨ ((¬ (0 ≤ x ∧ x < ro)) ∧ z = 0 ∧ w' = va_up w 29 (mdO ad tr ru ro sp nr ns 1 se fa so)) ∨ (((0 ≤ x ∧ x < ro) ∧ ¬ (0 ≤ y ∧ y < 4)) ∧ z = 0 ∧ w' = va_up w 29 (mdO ad tr ru ro sp nr ns 2 se fa so)))) xF := by
  refine xm_of (by decide +kernel) (by simp [Value.category]) (Nat.le_of_ble_eq_true rfl) (fun G C E _ => ?_)
  refine xr_aload_n C 0 d_Md_row_0 rfl rfl ?_
  refine xr_iload_n C 1 d_Md_row_1 rfl rfl ?_
  refine xz_if_lt (tgt := 13) C d_Md_row_2 (by decide) (by omega) (fun c2 => ?_) (fun c2 => ?_)
  · skip
    refine xr_iconst C d_Md_row_13 ?_
    refine xr_goto (tgt := 31) C d_Md_row_14 (by decide) ?_
    refine xr_put (k := 29) C xf_Md_86 hw29 (by decide) rfl rfl (Nat.le_of_ble_eq_true rfl) d_Md_row_31 ?_
    refine xr_aload_n C 0 d_Md_row_34 rfl rfl ?_
    refine xr_get (k := 29) C xg_Md_86 rfl (by decide) rfl d_Md_row_35 ?_
    refine xz_if_eq (tgt := 45) C d_Md_row_38 (by decide) (by omega) (fun c38 => by exfalso; omega) (fun c38 => ?_)
    refine xr_iconst C d_Md_row_41 ?_
    refine xr_goto (tgt := 55) C d_Md_row_42 (by decide) ?_
    exact xr_iret C E ⟨rfl, rfl, _, rfl, by first | exact Or.inl ⟨by omega, by omega, rfl, rfl⟩ | exact Or.inr (Or.inl ⟨by omega, rfl, rfl⟩) | exact Or.inr (Or.inr ⟨by omega, rfl, rfl⟩)⟩ (by decide) (by decide) d_Md_row_55
  · skip
    refine xr_iload_n C 1 d_Md_row_5 rfl rfl ?_
    refine xr_aload_n C 0 d_Md_row_6 rfl rfl ?_
    refine xr_get (k := 29) C xg_Md_170 hw29 (by decide) rfl d_Md_row_7 ?_
    refine xz_icmp_lt (tgt := 17) C d_Md_row_10 (by decide) (by omega) (by omega) (fun c10 => ?_) (fun c10 => ?_)
    · skip
      refine xr_iload_n C 2 d_Md_row_17 rfl rfl ?_
      refine xz_if_lt (tgt := 26) C d_Md_row_18 (by decide) (by omega) (fun c18 => ?_) (fun c18 => ?_)
      · skip
        refine xr_iconst C d_Md_row_26 ?_
        refine xr_goto (tgt := 31) C d_Md_row_27 (by decide) ?_
        refine xr_put (k := 29) C xf_Md_86 hw29 (by decide) rfl rfl (Nat.le_of_ble_eq_true rfl) d_Md_row_31 ?_
        refine xr_aload_n C 0 d_Md_row_34 rfl rfl ?_
        refine xr_get (k := 29) C xg_Md_86 rfl (by decide) rfl d_Md_row_35 ?_
        refine xz_if_eq (tgt := 45) C d_Md_row_38 (by decide) (by omega) (fun c38 => by exfalso; omega) (fun c38 => ?_)
        refine xr_iconst C d_Md_row_41 ?_
        refine xr_goto (tgt := 55) C d_Md_row_42 (by decide) ?_
        exact xr_iret C E ⟨rfl, rfl, _, rfl, by first | exact Or.inl ⟨by omega, by omega, rfl, rfl⟩ | exact Or.inr (Or.inl ⟨by omega, rfl, rfl⟩) | exact Or.inr (Or.inr ⟨by omega, rfl, rfl⟩)⟩ (by decide) (by decide) d_Md_row_55
      · skip
        refine xr_iload_n C 2 d_Md_row_21 rfl rfl ?_
        refine xr_iconst C d_Md_row_22 ?_
        refine xz_icmp_le (tgt := 30) C d_Md_row_23 (by decide) (by omega) (by omega) (fun c23 => ?_) (fun c23 => ?_)
        · skip
          refine xr_iconst C d_Md_row_30 ?_
          refine xr_put (k := 29) C xf_Md_86 hw29 (by decide) rfl rfl (Nat.le_of_ble_eq_true rfl) d_Md_row_31 ?_
          refine xr_aload_n C 0 d_Md_row_34 rfl rfl ?_
          refine xr_get (k := 29) C xg_Md_86 rfl (by decide) rfl d_Md_row_35 ?_
          refine xz_if_eq (tgt := 45) C d_Md_row_38 (by decide) (by omega) (fun c38 => ?_) (fun c38 => by exfalso; omega)
          refine xr_aload_n C 0 d_Md_row_45 rfl rfl ?_
          refine xr_get (k := 29) C xg_Md_47 rfl (by decide) rfl d_Md_row_46 ?_
          refine xr_iconst C d_Md_row_49 ?_
          refine xr_iload_n C 1 d_Md_row_50 rfl rfl ?_
          refine xz_imul C d_Md_row_51 ?_
          refine xr_iload_n C 2 d_Md_row_52 rfl rfl ?_
          refine xz_iadd C d_Md_row_53 ?_
          refine xz_iald (k := 42) C hw42 (by decide) (by omega) (by decide) d_Md_row_54 ?_
          exact xr_iret C E ⟨rfl, rfl, _, rfl, by first | exact Or.inl ⟨by omega, by omega, rfl, rfl⟩ | exact Or.inr (Or.inl ⟨by omega, rfl, rfl⟩) | exact Or.inr (Or.inr ⟨by omega, rfl, rfl⟩)⟩ (by decide) (by decide) d_Md_row_55
        · skip
          refine xr_iconst C d_Md_row_26 ?_
          refine xr_goto (tgt := 31) C d_Md_row_27 (by decide) ?_
          refine xr_put (k := 29) C xf_Md_86 hw29 (by decide) rfl rfl (Nat.le_of_ble_eq_true rfl) d_Md_row_31 ?_
          refine xr_aload_n C 0 d_Md_row_34 rfl rfl ?_
          refine xr_get (k := 29) C xg_Md_86 rfl (by decide) rfl d_Md_row_35 ?_
          refine xz_if_eq (tgt := 45) C d_Md_row_38 (by decide) (by omega) (fun c38 => by exfalso; omega) (fun c38 => ?_)
          refine xr_iconst C d_Md_row_41 ?_
          refine xr_goto (tgt := 55) C d_Md_row_42 (by decide) ?_
          exact xr_iret C E ⟨rfl, rfl, _, rfl, by first | exact Or.inl ⟨by omega, by omega, rfl, rfl⟩ | exact Or.inr (Or.inl ⟨by omega, rfl, rfl⟩) | exact Or.inr (Or.inr ⟨by omega, rfl, rfl⟩)⟩ (by decide) (by decide) d_Md_row_55
    · skip
      refine xr_iconst C d_Md_row_13 ?_
      refine xr_goto (tgt := 31) C d_Md_row_14 (by decide) ?_
      refine xr_put (k := 29) C xf_Md_86 hw29 (by decide) rfl rfl (Nat.le_of_ble_eq_true rfl) d_Md_row_31 ?_
      refine xr_aload_n C 0 d_Md_row_34 rfl rfl ?_
      refine xr_get (k := 29) C xg_Md_86 rfl (by decide) rfl d_Md_row_35 ?_
      refine xz_if_eq (tgt := 45) C d_Md_row_38 (by decide) (by omega) (fun c38 => by exfalso; omega) (fun c38 => ?_)
      refine xr_iconst C d_Md_row_41 ?_
      refine xr_goto (tgt := 55) C d_Md_row_42 (by decide) ?_
      exact xr_iret C E ⟨rfl, rfl, _, rfl, by first | exact Or.inl ⟨by omega, by omega, rfl, rfl⟩ | exact Or.inr (Or.inl ⟨by omega, rfl, rfl⟩) | exact Or.inr (Or.inr ⟨by omega, rfl, rfl⟩)⟩ (by decide) (by decide) d_Md_row_55
set_option maxHeartbeats 4000000 in
set_option maxRecDepth 100000 in
theorem m_Md_usable {L : Launch} {D : va_G} {cA : Nat → ClassId} {base : Nat} {ad : Nat → Nat} {w : Nat → va_E} {tr ru ro sp nr ns th : Int} {se fa so : Bool} (hw29 : w 29 = mdO ad tr ru ro sp nr ns th se fa so) {co ch an : Nat → Int} (hw39 : w 39 = xIA (cA 0) 16 co) (hw40 : w 40 = xIA (cA 1) 16 ch) (hw41 : w 41 = xIA (cA 0) 10 an) (hco : ∀ j, -1 ≤ co j ∧ co j < 10) (hch : ∀ j, ch j = 0 ∨ ch j = 1) (han : ∀ j, 0 ≤ an j ∧ an j ≤ 2) (hru : 0 ≤ ru ∧ ru ≤ 16) {x : Int} (hx : -2147483648 ≤ x ∧ x < 2147483648) : XM L D cA base y_Md_usable c_Md_usable 2 (some .boolean) (xrm 1 0 0) [.ref (ad 29), .int (zI x)] 56 ad w (xRet 56 ad (fun z w' => ((0 ≤ x ∧ x < ru) ∧ z = xb (decide (ch x.toNat = 1 ∧ (co x.toNat = -1 ∨ an (co x.toNat).toNat = 1))) ∧ w' = va_up w 29 (mdO ad tr ru ro sp nr ns 0 se fa so)) ∨ ((¬ (0 ≤ x ∧ x < ru)) ∧ z = 0 ∧ w' = va_up w 29 (mdO ad tr ru ro sp nr ns 1 se fa so)))) xF := by
  refine xm_of (by decide +kernel) (by simp [Value.category]) (Nat.le_of_ble_eq_true rfl) (fun G C E _ => ?_)
  refine xr_aload_n C 0 d_Md_usable_0 rfl rfl ?_
  refine xr_aload_n C 0 d_Md_usable_1 rfl rfl ?_
  refine xr_iload_n C 1 d_Md_usable_2 rfl rfl ?_
  refine xr_callV (k9 := 29) C (m_Md_isRule hw29 hru (x := x) (by omega)) xm_Md_132 x2_Md_isRule hw29 (by decide) rfl (by decide) (by decide) (Nat.le_of_ble_eq_true rfl) rfl d_Md_usable_3 (fun En n9 ad9 w9 hx9 => hx9.elim) (fun v n9 ad9 w9 hp => ?_)
  obtain ⟨rfl, rfl, rfl, rfl⟩ := hp
  show XW _ _ _ _ _ _ 6 _ (_ :: _)
  refine xb_if_eq (tgt := 13) C d_Md_usable_6 (by decide)  (fun c6 => ?_) (fun c6 => ?_)
  · skip
    have b6 : ¬ (0 ≤ x ∧ x < ru) := of_decide_eq_false c6
    refine xr_iconst C d_Md_usable_13 ?_
    refine xr_put (k := 29) C xf_Md_86 hw29 (by decide) rfl rfl (Nat.le_of_ble_eq_true rfl) d_Md_usable_14 ?_
    refine xr_aload_n C 0 d_Md_usable_17 rfl rfl ?_
    refine xr_get (k := 29) C xg_Md_86 rfl (by decide) rfl d_Md_usable_18 ?_
    refine xz_if_ne (tgt := 36) C d_Md_usable_21 (by decide) (by omega) (fun c21 => ?_) (fun c21 => by exfalso; omega)
    refine xr_iconst C d_Md_usable_36 ?_
    exact xr_zret C E (by omega) ⟨rfl, rfl, _, rfl, by first | exact Or.inl ⟨by omega, by rw [c29]; rfl, rfl⟩ | exact Or.inr ⟨by omega, rfl, rfl⟩⟩ (by decide) (by decide) d_Md_usable_37
  · skip
    have b6 : (0 ≤ x ∧ x < ru) := of_decide_eq_true c6
    refine xr_iconst C d_Md_usable_9 ?_
    refine xr_goto (tgt := 14) C d_Md_usable_10 (by decide) ?_
    refine xr_put (k := 29) C xf_Md_86 hw29 (by decide) rfl rfl (Nat.le_of_ble_eq_true rfl) d_Md_usable_14 ?_
    refine xr_aload_n C 0 d_Md_usable_17 rfl rfl ?_
    refine xr_get (k := 29) C xg_Md_86 rfl (by decide) rfl d_Md_usable_18 ?_
    refine xz_if_ne (tgt := 36) C d_Md_usable_21 (by decide) (by omega) (fun c21 => by exfalso; omega) (fun c21 => ?_)
    refine xr_aload_n C 0 d_Md_usable_24 rfl rfl ?_
    refine xr_iload_n C 1 d_Md_usable_25 rfl rfl ?_
    refine xr_callV (k9 := 29) C (m_Md_may (w := va_up w 29 (mdO ad tr ru ro sp nr ns 0 se fa so)) (th := 0) rfl hw39 hw40 hw41 (x := x) (by omega) (hco _) (hch _) han) xm_Md_135 x2_Md_may rfl (by decide) rfl (by decide) (by decide) (Nat.le_of_ble_eq_true rfl) rfl d_Md_usable_26 (fun En n9 ad9 w9 hx9 => hx9.elim) (fun v n9 ad9 w9 hp => ?_)
    obtain ⟨rfl, rfl, rfl, rfl⟩ := hp
    show XW _ _ _ _ _ _ 29 _ (_ :: _)
    refine xb_if_eq (tgt := 36) C d_Md_usable_29 (by decide)  (fun c29 => ?_) (fun c29 => ?_)
    · skip
      refine xr_iconst C d_Md_usable_36 ?_
      exact xr_zret C E (by omega) ⟨rfl, rfl, _, rfl, by first | exact Or.inl ⟨by omega, by rw [c29]; rfl, rfl⟩ | exact Or.inr ⟨by omega, rfl, rfl⟩⟩ (by decide) (by decide) d_Md_usable_37
    · skip
      refine xr_iconst C d_Md_usable_32 ?_
      refine xr_goto (tgt := 37) C d_Md_usable_33 (by decide) ?_
      exact xr_zret C E (by omega) ⟨rfl, rfl, _, rfl, by first | exact Or.inl ⟨by omega, by rw [c29]; rfl, rfl⟩ | exact Or.inr ⟨by omega, rfl, rfl⟩⟩ (by decide) (by decide) d_Md_usable_37
set_option maxHeartbeats 4000000 in
set_option maxRecDepth 100000 in
theorem m_Md_choose {L : Launch} {D : va_G} {cA : Nat → ClassId} {base : Nat} {ad : Nat → Nat} {w : Nat → va_E} {tr ru ro sp nr ns th : Int} {se fa so : Bool} (hw29 : w 29 = mdO ad tr ru ro sp nr ns th se fa so) {co ch an : Nat → Int} (hw39 : w 39 = xIA (cA 0) 16 co) (hw40 : w 40 = xIA (cA 1) 16 ch) (hw41 : w 41 = xIA (cA 0) 10 an) (hco : ∀ j, -1 ≤ co j ∧ co j < 10) (hch : ∀ j, ch j = 0 ∨ ch j = 1) (han : ∀ j, 0 ≤ an j ∧ an j ≤ 2) (hru : 0 ≤ ru ∧ ru ≤ 16) {x : Int} (hx : -2147483648 ≤ x ∧ x < 2147483648) {on : Bool} : XM L D cA base y_Md_choose c_Md_choose 4 (some .boolean) (xrm 1 0 0) [.ref (ad 29), .int (zI x), .int (zI (xb on))] 56 ad w (xRet 56 ad (fun z w' => ((0 ≤ x ∧ x < ru) ∧ z = xb (decide (ch x.toNat ≠ xb on)) ∧ w' = va_up (va_up w 29 (mdO ad tr ru ro sp nr ns 0 se fa so)) 40 (xIA (cA 1) 16 (va_up ch x.toNat (xb on)))) ∨ ((¬ (0 ≤ x ∧ x < ru)) ∧ z = 0 ∧ w' = va_up w 29 (mdO ad tr ru ro sp nr ns 1 se fa so)))) xF := by
  refine xm_of (by decide +kernel) (by simp [Value.category]) (Nat.le_of_ble_eq_true rfl) (fun G C E _ => ?_)
  refine xr_aload_n C 0 d_Md_choose_0 rfl rfl ?_
  refine xr_aload_n C 0 d_Md_choose_1 rfl rfl ?_
  refine xr_iload_n C 1 d_Md_choose_2 rfl rfl ?_
  refine xr_callV (k9 := 29) C (m_Md_isRule hw29 hru (x := x) (by omega)) xm_Md_132 x2_Md_isRule hw29 (by decide) rfl (by decide) (by decide) (Nat.le_of_ble_eq_true rfl) rfl d_Md_choose_3 (fun En n9 ad9 w9 hx9 => hx9.elim) (fun v n9 ad9 w9 hp => ?_)
  obtain ⟨rfl, rfl, rfl, rfl⟩ := hp
  show XW _ _ _ _ _ _ 6 _ (_ :: _)
  refine xb_if_eq (tgt := 13) C d_Md_choose_6 (by decide)  (fun c6 => ?_) (fun c6 => ?_)
  · skip
    have b6 : ¬ (0 ≤ x ∧ x < ru) := of_decide_eq_false c6
    refine xr_iconst C d_Md_choose_13 ?_
    refine xr_put (k := 29) C xf_Md_86 hw29 (by decide) rfl rfl (Nat.le_of_ble_eq_true rfl) d_Md_choose_14 ?_
    refine xr_aload_n C 0 d_Md_choose_17 rfl rfl ?_
    refine xr_get (k := 29) C xg_Md_86 rfl (by decide) rfl d_Md_choose_18 ?_
    refine xz_if_eq (tgt := 26) C d_Md_choose_21 (by decide) (by omega) (fun c21 => by exfalso; omega) (fun c21 => ?_)
    refine xr_iconst C d_Md_choose_24 ?_
    exact xr_zret C E (by omega) ⟨rfl, rfl, _, rfl, Or.inr ⟨by omega, rfl, rfl⟩⟩ (by decide) (by decide) d_Md_choose_25
  · skip
    have b6 : (0 ≤ x ∧ x < ru) := of_decide_eq_true c6
    refine xr_iconst C d_Md_choose_9 ?_
    refine xr_goto (tgt := 14) C d_Md_choose_10 (by decide) ?_
    refine xr_put (k := 29) C xf_Md_86 hw29 (by decide) rfl rfl (Nat.le_of_ble_eq_true rfl) d_Md_choose_14 ?_
    refine xr_aload_n C 0 d_Md_choose_17 rfl rfl ?_
    refine xr_get (k := 29) C xg_Md_86 rfl (by decide) rfl d_Md_choose_18 ?_
    refine xz_if_eq (tgt := 26) C d_Md_choose_21 (by decide) (by omega) (fun c21 => ?_) (fun c21 => by exfalso; omega)
    refine xr_aload_n C 0 d_Md_choose_26 rfl rfl ?_
    refine xr_get (k := 29) C xg_Md_40 rfl (by decide) rfl d_Md_choose_27 ?_
    refine xr_iload_n C 1 d_Md_choose_30 rfl rfl ?_
    refine xz_zald (k := 40) C hw40 (by decide) (by omega) (by decide) d_Md_choose_31 ?_
    refine xr_iload_n C 2 d_Md_choose_32 rfl rfl ?_
    have hb9 := xb_01 (p := on)
    have hc9 := hch x.toNat
    refine xz_icmp_eq (tgt := 40) C d_Md_choose_33 (by decide) (by omega) (by omega) (fun c33 => ?_) (fun c33 => ?_)
    · skip
      refine xr_iconst C d_Md_choose_40 ?_
      refine xr_istore_n C 3 d_Md_choose_41 rfl (by decide) ?_
      refine xr_aload_n C 0 d_Md_choose_42 rfl rfl ?_
      refine xr_get (k := 29) C xg_Md_40 rfl (by decide) rfl d_Md_choose_43 ?_
      refine xr_iload_n C 1 d_Md_choose_46 rfl rfl ?_
      refine xr_iload_n C 2 d_Md_choose_47 rfl rfl ?_
      refine xz_zast (k := 40) C hw40 (by decide) (by omega) (by decide) xb_01 d_Md_choose_48 ?_
      refine xr_iload_n C 3 d_Md_choose_49 rfl rfl ?_
      exact xr_zret C E (by omega) ⟨rfl, rfl, _, rfl, Or.inl ⟨by omega, by first | (rw [decide_eq_true (by omega)]; rfl) | (rw [decide_eq_false (by omega)]; rfl), rfl⟩⟩ (by decide) (by decide) d_Md_choose_50
    · skip
      refine xr_iconst C d_Md_choose_36 ?_
      refine xr_goto (tgt := 41) C d_Md_choose_37 (by decide) ?_
      refine xr_istore_n C 3 d_Md_choose_41 rfl (by decide) ?_
      refine xr_aload_n C 0 d_Md_choose_42 rfl rfl ?_
      refine xr_get (k := 29) C xg_Md_40 rfl (by decide) rfl d_Md_choose_43 ?_
      refine xr_iload_n C 1 d_Md_choose_46 rfl rfl ?_
      refine xr_iload_n C 2 d_Md_choose_47 rfl rfl ?_
      refine xz_zast (k := 40) C hw40 (by decide) (by omega) (by decide) xb_01 d_Md_choose_48 ?_
      refine xr_iload_n C 3 d_Md_choose_49 rfl rfl ?_
      exact xr_zret C E (by omega) ⟨rfl, rfl, _, rfl, Or.inl ⟨by omega, by first | (rw [decide_eq_true (by omega)]; rfl) | (rw [decide_eq_false (by omega)]; rfl), rfl⟩⟩ (by decide) (by decide) d_Md_choose_50
set_option maxHeartbeats 4000000 in
set_option maxRecDepth 100000 in
theorem m_Md_holds {L : Launch} {D : va_G} {cA : Nat → ClassId} {base : Nat} {ad : Nat → Nat} {w : Nat → va_E} {tr ru ro sp nr ns th : Int} {se fa so : Bool} (hw29 : w 29 = mdO ad tr ru ro sp nr ns th se fa so) {co ch an : Nat → Int} (hw39 : w 39 = xIA (cA 0) 16 co) (hw40 : w 40 = xIA (cA 1) 16 ch) (hw41 : w 41 = xIA (cA 0) 10 an) (hco : ∀ j, -1 ≤ co j ∧ co j < 10) (hch : ∀ j, ch j = 0 ∨ ch j = 1) (han : ∀ j, 0 ≤ an j ∧ an j ≤ 2) (hru : 0 ≤ ru ∧ ru ≤ 16) {x : Int} (hx : -2147483648 ≤ x ∧ x < 2147483648) {y : Int} (hy : -2147483648 ≤ y ∧ y < 2147483648) : XM L D cA base y_Md_holds c_Md_holds 4 (some .boolean) (xrm 0 0 0) [.ref (ad 29), .int (zI x), .int (zI y)] 56 ad w (xRet 56 ad (fun z w' => (((0 ≤ x ∧ x < 10) ∧ (0 ≤ y ∧ y < 3)) ∧ z = xb (decide (an x.toNat ≠ y)) ∧ w' = va_up (va_up w 29 (mdO ad tr ru ro sp nr ns 0 se fa so)) 41 (xIA (cA 0) 10 (va_up an x.toNat y))) ∨ ((¬ ((0 ≤ x ∧ x < 10) ∧ (0 ≤ y ∧ y < 3))) ∧ z = 0 ∧ w' = va_up w 29 (mdO ad tr ru ro sp nr ns 1 se fa so)))) xF := by
  refine xm_of (by decide +kernel) (by simp [Value.category]) (Nat.le_of_ble_eq_true rfl) (fun G C E _ => ?_)
  refine xr_aload_n C 0 d_Md_holds_0 rfl rfl ?_
  refine xr_iload_n C 1 d_Md_holds_1 rfl rfl ?_
  refine xz_if_lt (tgt := 20) C d_Md_holds_2 (by decide) (by omega) (fun c2 => ?_) (fun c2 => ?_)
  · skip
    refine xr_iconst C d_Md_holds_20 ?_
    refine xr_goto (tgt := 25) C d_Md_holds_21 (by decide) ?_
    refine xr_put (k := 29) C xf_Md_86 hw29 (by decide) rfl rfl (Nat.le_of_ble_eq_true rfl) d_Md_holds_25 ?_
    refine xr_aload_n C 0 d_Md_holds_28 rfl rfl ?_
    refine xr_get (k := 29) C xg_Md_86 rfl (by decide) rfl d_Md_holds_29 ?_
    refine xz_if_eq (tgt := 37) C d_Md_holds_32 (by decide) (by omega) (fun c32 => by exfalso; omega) (fun c32 => ?_)
    refine xr_iconst C d_Md_holds_35 ?_
    exact xr_zret C E (by omega) ⟨rfl, rfl, _, rfl, Or.inr ⟨by omega, rfl, rfl⟩⟩ (by decide) (by decide) d_Md_holds_36
  · skip
    refine xr_iload_n C 1 d_Md_holds_5 rfl rfl ?_
    refine xr_bipush C d_Md_holds_6 (by decide) ?_
    refine xz_icmp_gt (tgt := 20) C d_Md_holds_8 (by decide) (by omega) (by omega) (fun c8 => ?_) (fun c8 => ?_)
    · skip
      refine xr_iconst C d_Md_holds_20 ?_
      refine xr_goto (tgt := 25) C d_Md_holds_21 (by decide) ?_
      refine xr_put (k := 29) C xf_Md_86 hw29 (by decide) rfl rfl (Nat.le_of_ble_eq_true rfl) d_Md_holds_25 ?_
      refine xr_aload_n C 0 d_Md_holds_28 rfl rfl ?_
      refine xr_get (k := 29) C xg_Md_86 rfl (by decide) rfl d_Md_holds_29 ?_
      refine xz_if_eq (tgt := 37) C d_Md_holds_32 (by decide) (by omega) (fun c32 => by exfalso; omega) (fun c32 => ?_)
      refine xr_iconst C d_Md_holds_35 ?_
      exact xr_zret C E (by omega) ⟨rfl, rfl, _, rfl, Or.inr ⟨by omega, rfl, rfl⟩⟩ (by decide) (by decide) d_Md_holds_36
    · skip
      refine xr_iload_n C 2 d_Md_holds_11 rfl rfl ?_
      refine xz_if_lt (tgt := 20) C d_Md_holds_12 (by decide) (by omega) (fun c12 => ?_) (fun c12 => ?_)
      · skip
        refine xr_iconst C d_Md_holds_20 ?_
        refine xr_goto (tgt := 25) C d_Md_holds_21 (by decide) ?_
        refine xr_put (k := 29) C xf_Md_86 hw29 (by decide) rfl rfl (Nat.le_of_ble_eq_true rfl) d_Md_holds_25 ?_
        refine xr_aload_n C 0 d_Md_holds_28 rfl rfl ?_
        refine xr_get (k := 29) C xg_Md_86 rfl (by decide) rfl d_Md_holds_29 ?_
        refine xz_if_eq (tgt := 37) C d_Md_holds_32 (by decide) (by omega) (fun c32 => by exfalso; omega) (fun c32 => ?_)
        refine xr_iconst C d_Md_holds_35 ?_
        exact xr_zret C E (by omega) ⟨rfl, rfl, _, rfl, Or.inr ⟨by omega, rfl, rfl⟩⟩ (by decide) (by decide) d_Md_holds_36
      · skip
        refine xr_iload_n C 2 d_Md_holds_15 rfl rfl ?_
        refine xr_iconst C d_Md_holds_16 ?_
        refine xz_icmp_le (tgt := 24) C d_Md_holds_17 (by decide) (by omega) (by omega) (fun c17 => ?_) (fun c17 => ?_)
        · skip
          refine xr_iconst C d_Md_holds_24 ?_
          refine xr_put (k := 29) C xf_Md_86 hw29 (by decide) rfl rfl (Nat.le_of_ble_eq_true rfl) d_Md_holds_25 ?_
          refine xr_aload_n C 0 d_Md_holds_28 rfl rfl ?_
          refine xr_get (k := 29) C xg_Md_86 rfl (by decide) rfl d_Md_holds_29 ?_
          refine xz_if_eq (tgt := 37) C d_Md_holds_32 (by decide) (by omega) (fun c32 => ?_) (fun c32 => by exfalso; omega)
          refine xr_aload_n C 0 d_Md_holds_37 rfl rfl ?_
          refine xr_get (k := 29) C xg_Md_44 rfl (by decide) rfl d_Md_holds_38 ?_
          refine xr_iload_n C 1 d_Md_holds_41 rfl rfl ?_
          refine xz_iald (k := 41) C hw41 (by decide) (by omega) (by decide) d_Md_holds_42 ?_
          refine xr_iload_n C 2 d_Md_holds_43 rfl rfl ?_
          have hc9 := han x.toNat
          refine xz_icmp_eq (tgt := 51) C d_Md_holds_44 (by decide) (by omega) (by omega) (fun c44 => ?_) (fun c44 => ?_)
          · skip
            refine xr_iconst C d_Md_holds_51 ?_
            refine xr_istore_n C 3 d_Md_holds_52 rfl (by decide) ?_
            refine xr_aload_n C 0 d_Md_holds_53 rfl rfl ?_
            refine xr_get (k := 29) C xg_Md_44 rfl (by decide) rfl d_Md_holds_54 ?_
            refine xr_iload_n C 1 d_Md_holds_57 rfl rfl ?_
            refine xr_iload_n C 2 d_Md_holds_58 rfl rfl ?_
            refine xz_iast (k := 41) C hw41 (by decide) (by omega) (by decide) d_Md_holds_59 ?_
            refine xr_iload_n C 3 d_Md_holds_60 rfl rfl ?_
            exact xr_zret C E (by omega) ⟨rfl, rfl, _, rfl, Or.inl ⟨by omega, by first | (rw [decide_eq_true (by omega)]; rfl) | (rw [decide_eq_false (by omega)]; rfl), rfl⟩⟩ (by decide) (by decide) d_Md_holds_61
          · skip
            refine xr_iconst C d_Md_holds_47 ?_
            refine xr_goto (tgt := 52) C d_Md_holds_48 (by decide) ?_
            refine xr_istore_n C 3 d_Md_holds_52 rfl (by decide) ?_
            refine xr_aload_n C 0 d_Md_holds_53 rfl rfl ?_
            refine xr_get (k := 29) C xg_Md_44 rfl (by decide) rfl d_Md_holds_54 ?_
            refine xr_iload_n C 1 d_Md_holds_57 rfl rfl ?_
            refine xr_iload_n C 2 d_Md_holds_58 rfl rfl ?_
            refine xz_iast (k := 41) C hw41 (by decide) (by omega) (by decide) d_Md_holds_59 ?_
            refine xr_iload_n C 3 d_Md_holds_60 rfl rfl ?_
            exact xr_zret C E (by omega) ⟨rfl, rfl, _, rfl, Or.inl ⟨by omega, by first | (rw [decide_eq_true (by omega)]; rfl) | (rw [decide_eq_false (by omega)]; rfl), rfl⟩⟩ (by decide) (by decide) d_Md_holds_61
        · skip
          refine xr_iconst C d_Md_holds_20 ?_
          refine xr_goto (tgt := 25) C d_Md_holds_21 (by decide) ?_
          refine xr_put (k := 29) C xf_Md_86 hw29 (by decide) rfl rfl (Nat.le_of_ble_eq_true rfl) d_Md_holds_25 ?_
          refine xr_aload_n C 0 d_Md_holds_28 rfl rfl ?_
          refine xr_get (k := 29) C xg_Md_86 rfl (by decide) rfl d_Md_holds_29 ?_
          refine xz_if_eq (tgt := 37) C d_Md_holds_32 (by decide) (by omega) (fun c32 => by exfalso; omega) (fun c32 => ?_)
          refine xr_iconst C d_Md_holds_35 ?_
          exact xr_zret C E (by omega) ⟨rfl, rfl, _, rfl, Or.inr ⟨by omega, rfl, rfl⟩⟩ (by decide) (by decide) d_Md_holds_36
set_option maxHeartbeats 4000000 in
set_option maxRecDepth 100000 in
theorem m_Md_leaf {L : Launch} {D : va_G} {cA : Nat → ClassId} {base : Nat} {ad : Nat → Nat} {w : Nat → va_E} {S : xS} {ru ro sp nr ns th : Int} {se fa so : Bool} (hMT : MT ad cA w S ru ro sp nr ns th se fa so) (hT : Tb S) {x : Int} (hx : -2147483648 ≤ x ∧ x < 2147483648) : XM L D cA base y_Md_leaf c_Md_leaf 2 (some .int) (xrm 3 0 0) [.ref (ad 29), .int (zI x)] 56 ad w (xRet 56 ad (fun y w' => ((0 ≤ x ∧ x < 20) ∧ ∃ (S' : xS) (z : Int), (z, S') = mkT S (100 + x) (-1) (-1) ∧ y = (if z < 0 then 0 else z) ∧ MT ad cA w' S' ru ro sp nr ns (if z < 0 then 2 else 0) se (decide (z < 0)) so ∧ (∀ k, (k < 29 ∨ 36 < k) → w' k = w k)) ∨ ((¬ (0 ≤ x ∧ x < 20)) ∧ y = 0 ∧ w' = va_up w 29 (mdO ad (sN S : Int) ru ro sp nr ns 1 se fa so)))) xF := by
  refine xm_of (by decide +kernel) (by simp [Value.category]) (Nat.le_of_ble_eq_true rfl) (fun G C E _ => ?_)
  obtain ⟨sg, fs, sn, wt, pl, dp, ho, hw29, hw30, hw31, hw32, hw33, hw34, hw35, hw36, hA⟩ := hMT
  refine xr_aload_n C 0 d_Md_leaf_0 rfl rfl ?_
  refine xr_iload_n C 1 d_Md_leaf_1 rfl rfl ?_
  refine xz_if_lt (tgt := 11) C d_Md_leaf_2 (by decide) (by omega) (fun c2 => ?_) (fun c2 => ?_)
  · skip
    refine xr_iconst C d_Md_leaf_11 ?_
    refine xr_goto (tgt := 16) C d_Md_leaf_12 (by decide) ?_
    refine xr_put (k := 29) C xf_Md_86 hw29 (by decide) rfl rfl (Nat.le_of_ble_eq_true rfl) d_Md_leaf_16 ?_
    refine xr_aload_n C 0 d_Md_leaf_19 rfl rfl ?_
    refine xr_get (k := 29) C xg_Md_86 rfl (by decide) rfl d_Md_leaf_20 ?_
    refine xz_if_eq (tgt := 30) C d_Md_leaf_23 (by decide) (by omega) (fun c23 => by exfalso; omega) (fun c23 => ?_)
    refine xr_iconst C d_Md_leaf_26 ?_
    refine xr_goto (tgt := 41) C d_Md_leaf_27 (by decide) ?_
    exact xr_iret C E ⟨rfl, rfl, _, rfl, by first | exact Or.inl ⟨by omega, S', z, hz, hy, hMT', fun k hk => (hfr k hk).trans (va_ne (by omega))⟩ | exact Or.inr ⟨by omega, rfl, rfl⟩⟩ (by decide) (by decide) d_Md_leaf_41
  · skip
    refine xr_iload_n C 1 d_Md_leaf_5 rfl rfl ?_
    refine xr_bipush C d_Md_leaf_6 (by decide) ?_
    refine xz_icmp_le (tgt := 15) C d_Md_leaf_8 (by decide) (by omega) (by omega) (fun c8 => ?_) (fun c8 => ?_)
    · skip
      refine xr_iconst C d_Md_leaf_15 ?_
      refine xr_put (k := 29) C xf_Md_86 hw29 (by decide) rfl rfl (Nat.le_of_ble_eq_true rfl) d_Md_leaf_16 ?_
      refine xr_aload_n C 0 d_Md_leaf_19 rfl rfl ?_
      refine xr_get (k := 29) C xg_Md_86 rfl (by decide) rfl d_Md_leaf_20 ?_
      refine xz_if_eq (tgt := 30) C d_Md_leaf_23 (by decide) (by omega) (fun c23 => ?_) (fun c23 => by exfalso; omega)
      refine xr_aload_n C 0 d_Md_leaf_30 rfl rfl ?_
      refine xr_bipush C d_Md_leaf_31 (by decide) ?_
      refine xr_iload_n C 1 d_Md_leaf_33 rfl rfl ?_
      refine xz_iadd C d_Md_leaf_34 ?_
      refine xr_iconst C d_Md_leaf_35 ?_
      refine xr_iconst C d_Md_leaf_36 ?_
      refine xr_iconst C d_Md_leaf_37 ?_
      refine xr_callV (k9 := 29) C (m_Md_ask (w := va_up w 29 (mdO ad (sN S : Int) ru ro sp nr ns 0 se fa so)) (S := S) (th := 0) (s := 100 + x) (a := -1) (b := -1) (e := 2) ⟨sg, fs, sn, wt, pl, dp, ho, rfl, hw30, hw31, hw32, hw33, hw34, hw35, hw36, hA⟩ hT (by unfold shp; omega)) xm_Md_105 x2_Md_ask rfl (by decide) rfl (by decide) (by decide) (Nat.le_of_ble_eq_true rfl) rfl d_Md_leaf_38 (fun En n9 ad9 w9 hx9 => hx9.elim) (fun v n9 ad9 w9 hp => ?_)
      obtain ⟨rfl, rfl, y, rfl, S', z, hz, hy, hMT', hfr⟩ := hp
      show XW _ _ _ _ _ _ 41 _ (_ :: _)
      exact xr_iret C E ⟨rfl, rfl, _, rfl, by first | exact Or.inl ⟨by omega, S', z, hz, hy, hMT', fun k hk => (hfr k hk).trans (va_ne (by omega))⟩ | exact Or.inr ⟨by omega, rfl, rfl⟩⟩ (by decide) (by decide) d_Md_leaf_41
    · skip
      refine xr_iconst C d_Md_leaf_11 ?_
      refine xr_goto (tgt := 16) C d_Md_leaf_12 (by decide) ?_
      refine xr_put (k := 29) C xf_Md_86 hw29 (by decide) rfl rfl (Nat.le_of_ble_eq_true rfl) d_Md_leaf_16 ?_
      refine xr_aload_n C 0 d_Md_leaf_19 rfl rfl ?_
      refine xr_get (k := 29) C xg_Md_86 rfl (by decide) rfl d_Md_leaf_20 ?_
      refine xz_if_eq (tgt := 30) C d_Md_leaf_23 (by decide) (by omega) (fun c23 => by exfalso; omega) (fun c23 => ?_)
      refine xr_iconst C d_Md_leaf_26 ?_
      refine xr_goto (tgt := 41) C d_Md_leaf_27 (by decide) ?_
      exact xr_iret C E ⟨rfl, rfl, _, rfl, by first | exact Or.inl ⟨by omega, S', z, hz, hy, hMT', fun k hk => (hfr k hk).trans (va_ne (by omega))⟩ | exact Or.inr ⟨by omega, rfl, rfl⟩⟩ (by decide) (by decide) d_Md_leaf_41
set_option maxHeartbeats 4000000 in
set_option maxRecDepth 100000 in
theorem m_Md_hole {L : Launch} {D : va_G} {cA : Nat → ClassId} {base : Nat} {ad : Nat → Nat} {w : Nat → va_E} {S : xS} {ru ro sp nr ns th : Int} {se fa so : Bool} (hMT : MT ad cA w S ru ro sp nr ns th se fa so) (hT : Tb S) {x : Int} (hx : -2147483648 ≤ x ∧ x < 2147483648) : XM L D cA base y_Md_hole c_Md_hole 2 (some .int) (xrm 3 0 0) [.ref (ad 29), .int (zI x)] 56 ad w (xRet 56 ad (fun y w' => ((0 ≤ x ∧ x < 6) ∧ ∃ (S' : xS) (z : Int), (z, S') = mkT S (200 + x) (-1) (-1) ∧ y = (if z < 0 then 0 else z) ∧ MT ad cA w' S' ru ro sp nr ns (if z < 0 then 2 else 0) se (decide (z < 0)) so ∧ (∀ k, (k < 29 ∨ 36 < k) → w' k = w k)) ∨ ((¬ (0 ≤ x ∧ x < 6)) ∧ y = 0 ∧ w' = va_up w 29 (mdO ad (sN S : Int) ru ro sp nr ns 1 se fa so)))) xF := by
  refine xm_of (by decide +kernel) (by simp [Value.category]) (Nat.le_of_ble_eq_true rfl) (fun G C E _ => ?_)
  obtain ⟨sg, fs, sn, wt, pl, dp, ho, hw29, hw30, hw31, hw32, hw33, hw34, hw35, hw36, hA⟩ := hMT
  refine xr_aload_n C 0 d_Md_hole_0 rfl rfl ?_
  refine xr_iload_n C 1 d_Md_hole_1 rfl rfl ?_
  refine xz_if_lt (tgt := 10) C d_Md_hole_2 (by decide) (by omega) (fun c2 => ?_) (fun c2 => ?_)
  · skip
    refine xr_iconst C d_Md_hole_10 ?_
    refine xr_goto (tgt := 15) C d_Md_hole_11 (by decide) ?_
    refine xr_put (k := 29) C xf_Md_86 hw29 (by decide) rfl rfl (Nat.le_of_ble_eq_true rfl) d_Md_hole_15 ?_
    refine xr_aload_n C 0 d_Md_hole_18 rfl rfl ?_
    refine xr_get (k := 29) C xg_Md_86 rfl (by decide) rfl d_Md_hole_19 ?_
    refine xz_if_eq (tgt := 29) C d_Md_hole_22 (by decide) (by omega) (fun c22 => by exfalso; omega) (fun c22 => ?_)
    refine xr_iconst C d_Md_hole_25 ?_
    refine xr_goto (tgt := 41) C d_Md_hole_26 (by decide) ?_
    exact xr_iret C E ⟨rfl, rfl, _, rfl, by first | exact Or.inl ⟨by omega, S', z, hz, hy, hMT', fun k hk => (hfr k hk).trans (va_ne (by omega))⟩ | exact Or.inr ⟨by omega, rfl, rfl⟩⟩ (by decide) (by decide) d_Md_hole_41
  · skip
    refine xr_iload_n C 1 d_Md_hole_5 rfl rfl ?_
    refine xr_iconst C d_Md_hole_6 ?_
    refine xz_icmp_le (tgt := 14) C d_Md_hole_7 (by decide) (by omega) (by omega) (fun c7 => ?_) (fun c7 => ?_)
    · skip
      refine xr_iconst C d_Md_hole_14 ?_
      refine xr_put (k := 29) C xf_Md_86 hw29 (by decide) rfl rfl (Nat.le_of_ble_eq_true rfl) d_Md_hole_15 ?_
      refine xr_aload_n C 0 d_Md_hole_18 rfl rfl ?_
      refine xr_get (k := 29) C xg_Md_86 rfl (by decide) rfl d_Md_hole_19 ?_
      refine xz_if_eq (tgt := 29) C d_Md_hole_22 (by decide) (by omega) (fun c22 => ?_) (fun c22 => by exfalso; omega)
      refine xr_aload_n C 0 d_Md_hole_29 rfl rfl ?_
      refine xr_sipush C d_Md_hole_30 (by decide) ?_
      refine xr_iload_n C 1 d_Md_hole_33 rfl rfl ?_
      refine xz_iadd C d_Md_hole_34 ?_
      refine xr_iconst C d_Md_hole_35 ?_
      refine xr_iconst C d_Md_hole_36 ?_
      refine xr_iconst C d_Md_hole_37 ?_
      refine xr_callV (k9 := 29) C (m_Md_ask (w := va_up w 29 (mdO ad (sN S : Int) ru ro sp nr ns 0 se fa so)) (S := S) (th := 0) (s := 200 + x) (a := -1) (b := -1) (e := 2) ⟨sg, fs, sn, wt, pl, dp, ho, rfl, hw30, hw31, hw32, hw33, hw34, hw35, hw36, hA⟩ hT (by unfold shp; omega)) xm_Md_105 x2_Md_ask rfl (by decide) rfl (by decide) (by decide) (Nat.le_of_ble_eq_true rfl) rfl d_Md_hole_38 (fun En n9 ad9 w9 hx9 => hx9.elim) (fun v n9 ad9 w9 hp => ?_)
      obtain ⟨rfl, rfl, y, rfl, S', z, hz, hy, hMT', hfr⟩ := hp
      show XW _ _ _ _ _ _ 41 _ (_ :: _)
      exact xr_iret C E ⟨rfl, rfl, _, rfl, by first | exact Or.inl ⟨by omega, S', z, hz, hy, hMT', fun k hk => (hfr k hk).trans (va_ne (by omega))⟩ | exact Or.inr ⟨by omega, rfl, rfl⟩⟩ (by decide) (by decide) d_Md_hole_41
    · skip
      refine xr_iconst C d_Md_hole_10 ?_
      refine xr_goto (tgt := 15) C d_Md_hole_11 (by decide) ?_
      refine xr_put (k := 29) C xf_Md_86 hw29 (by decide) rfl rfl (Nat.le_of_ble_eq_true rfl) d_Md_hole_15 ?_
      refine xr_aload_n C 0 d_Md_hole_18 rfl rfl ?_
      refine xr_get (k := 29) C xg_Md_86 rfl (by decide) rfl d_Md_hole_19 ?_
      refine xz_if_eq (tgt := 29) C d_Md_hole_22 (by decide) (by omega) (fun c22 => by exfalso; omega) (fun c22 => ?_)
      refine xr_iconst C d_Md_hole_25 ?_
      refine xr_goto (tgt := 41) C d_Md_hole_26 (by decide) ?_
      exact xr_iret C E ⟨rfl, rfl, _, rfl, by first | exact Or.inl ⟨by omega, S', z, hz, hy, hMT', fun k hk => (hfr k hk).trans (va_ne (by omega))⟩ | exact Or.inr ⟨by omega, rfl, rfl⟩⟩ (by decide) (by decide) d_Md_hole_41
set_option maxHeartbeats 4000000 in
set_option maxRecDepth 100000 in
theorem m_Md_node {L : Launch} {D : va_G} {cA : Nat → ClassId} {base : Nat} {ad : Nat → Nat} {w : Nat → va_E} {S : xS} {ru ro sp nr ns th : Int} {se fa so : Bool} (hMT : MT ad cA w S ru ro sp nr ns th se fa so) (hT : Tb S) {h : Int} (hh9 : -2147483648 ≤ h ∧ h < 2147483648) {x : Int} (hx : -2147483648 ≤ x ∧ x < 2147483648) {y : Int} (hy : -2147483648 ≤ y ∧ y < 2147483648) : XM L D cA base y_Md_node c_Md_node 6 (some .int) (xrm 3 0 0) [.ref (ad 29), .int (zI h), .int (zI x), .int (zI y)] 56 ad w (xRet 56 ad (fun v w' => (((0 ≤ x ∧ x < sN S) ∧ ((0 ≤ y ∧ y < sN S) ∨ (y = -1 ∧ h < 6))) ∧ ((0 ≤ h ∧ h < 12) ∧ (h < 6 → y = -1)) ∧ ∃ (S' : xS) (z : Int), (z, S') = mkT S h x y ∧ v = (if z < 0 then 0 else z) ∧ MT ad cA w' S' ru ro sp nr ns (if z < 0 then 3 else 0) se (decide (z < 0)) so ∧ (∀ k, (k < 29 ∨ 36 < k) → w' k = w k)) ∨ ((¬ ((0 ≤ x ∧ x < sN S) ∧ ((0 ≤ y ∧ y < sN S) ∨ (y = -1 ∧ h < 6)))) ∧ v = 0 ∧ w' = va_up w 29 (mdO ad (sN S : Int) ru ro sp nr ns 1 se fa so)) ∨ (((0 ≤ x ∧ x < sN S) ∧ ((0 ≤ y ∧ y < sN S) ∨ (y = -1 ∧ h < 6))) ∧ (¬ ((0 ≤ h ∧ h < 12) ∧ (h < 6 → y = -1))) ∧ v = 0 ∧ w' = va_up w 29 (mdO ad (sN S : Int) ru ro sp nr ns 2 se fa so)))) xF := by
  refine xm_of (by decide +kernel) (by simp [Value.category]) (Nat.le_of_ble_eq_true rfl) (fun G C E _ => ?_)
  obtain ⟨sg, fs, sn, wt, pl, dp, ho, hw29, hw30, hw31, hw32, hw33, hw34, hw35, hw36, hA⟩ := hMT
  have hN := hT.1
  refine xr_aload_n C 0 d_Md_node_0 rfl rfl ?_
  refine xr_iload_n C 2 d_Md_node_1 rfl rfl ?_
  refine xr_callV (k9 := 29) C (m_Md_isTree hw29 (by omega) (x := x) (by omega)) xm_Md_109 x2_Md_isTree hw29 (by decide) rfl (by decide) (by decide) (Nat.le_of_ble_eq_true rfl) rfl d_Md_node_2 (fun En n9 ad9 w9 hx9 => hx9.elim) (fun v n9 ad9 w9 hp => ?_)
  obtain ⟨rfl, rfl, rfl, rfl⟩ := hp
  show XW _ _ _ _ _ _ 5 _ (_ :: _)
  refine xb_if_eq (tgt := 31) C d_Md_node_5 (by decide)  (fun c5 => ?_) (fun c5 => ?_)
  · skip
    have b5 : ¬ (0 ≤ x ∧ x < (sN S : Int)) := of_decide_eq_false c5
    refine xr_iconst C d_Md_node_31 ?_
    refine xr_istore C d_Md_node_32 (by decide) ?_
    refine xr_iload_n C 1 d_Md_node_34 rfl rfl ?_
    refine xz_if_lt (tgt := 67) C d_Md_node_35 (by decide) (by omega) (fun c35 => ?_) (fun c35 => ?_)
    · skip
      refine xr_iconst C d_Md_node_67 ?_
      refine xr_istore C d_Md_node_68 (by decide) ?_
      refine xr_aload_n C 0 d_Md_node_70 rfl rfl ?_
      refine xr_iload C d_Md_node_71 rfl ?_
      refine xz_if_ne (tgt := 80) C d_Md_node_73 (by decide) (by omega) (fun c73 => by exfalso; omega) (fun c73 => ?_)
      refine xr_iconst C d_Md_node_76 ?_
      refine xr_goto (tgt := 90) C d_Md_node_77 (by decide) ?_
      refine xr_put (k := 29) C xf_Md_86 hw29 (by decide) rfl rfl (Nat.le_of_ble_eq_true rfl) d_Md_node_90 ?_
      refine xr_aload_n C 0 d_Md_node_93 rfl rfl ?_
      refine xr_get (k := 29) C xg_Md_86 rfl (by decide) rfl d_Md_node_94 ?_
      refine xz_if_eq (tgt := 104) C d_Md_node_97 (by decide) (by omega) (fun c97 => by exfalso; omega) (fun c97 => ?_)
      refine xr_iconst C d_Md_node_100 ?_
      refine xr_goto (tgt := 112) C d_Md_node_101 (by decide) ?_
      exact xr_iret C E ⟨rfl, rfl, _, rfl, by first | exact Or.inl ⟨by omega, by omega, S', z, hz, hy9, hMT', fun k hk => (hfr k hk).trans (va_ne (by omega))⟩ | exact Or.inr (Or.inl ⟨by omega, rfl, rfl⟩) | exact Or.inr (Or.inr ⟨by omega, by omega, rfl, rfl⟩)⟩ (by decide) (by decide) d_Md_node_112
    · skip
      refine xr_iload_n C 1 d_Md_node_38 rfl rfl ?_
      refine xr_bipush C d_Md_node_39 (by decide) ?_
      refine xz_icmp_gt (tgt := 67) C d_Md_node_41 (by decide) (by omega) (by omega) (fun c41 => ?_) (fun c41 => ?_)
      · skip
        refine xr_iconst C d_Md_node_67 ?_
        refine xr_istore C d_Md_node_68 (by decide) ?_
        refine xr_aload_n C 0 d_Md_node_70 rfl rfl ?_
        refine xr_iload C d_Md_node_71 rfl ?_
        refine xz_if_ne (tgt := 80) C d_Md_node_73 (by decide) (by omega) (fun c73 => by exfalso; omega) (fun c73 => ?_)
        refine xr_iconst C d_Md_node_76 ?_
        refine xr_goto (tgt := 90) C d_Md_node_77 (by decide) ?_
        refine xr_put (k := 29) C xf_Md_86 hw29 (by decide) rfl rfl (Nat.le_of_ble_eq_true rfl) d_Md_node_90 ?_
        refine xr_aload_n C 0 d_Md_node_93 rfl rfl ?_
        refine xr_get (k := 29) C xg_Md_86 rfl (by decide) rfl d_Md_node_94 ?_
        refine xz_if_eq (tgt := 104) C d_Md_node_97 (by decide) (by omega) (fun c97 => by exfalso; omega) (fun c97 => ?_)
        refine xr_iconst C d_Md_node_100 ?_
        refine xr_goto (tgt := 112) C d_Md_node_101 (by decide) ?_
        exact xr_iret C E ⟨rfl, rfl, _, rfl, by first | exact Or.inl ⟨by omega, by omega, S', z, hz, hy9, hMT', fun k hk => (hfr k hk).trans (va_ne (by omega))⟩ | exact Or.inr (Or.inl ⟨by omega, rfl, rfl⟩) | exact Or.inr (Or.inr ⟨by omega, by omega, rfl, rfl⟩)⟩ (by decide) (by decide) d_Md_node_112
      · skip
        refine xr_iload_n C 1 d_Md_node_44 rfl rfl ?_
        refine xr_bipush C d_Md_node_45 (by decide) ?_
        refine xz_icmp_ge (tgt := 58) C d_Md_node_47 (by decide) (by omega) (by omega) (fun c47 => ?_) (fun c47 => ?_)
        · skip
          refine xr_iload_n C 3 d_Md_node_58 rfl rfl ?_
          refine xr_iconst C d_Md_node_59 ?_
          refine xz_icmp_eq (tgt := 67) C d_Md_node_60 (by decide) (by omega) (by omega) (fun c60 => ?_) (fun c60 => ?_)
          · skip
            refine xr_iconst C d_Md_node_67 ?_
            refine xr_istore C d_Md_node_68 (by decide) ?_
            refine xr_aload_n C 0 d_Md_node_70 rfl rfl ?_
            refine xr_iload C d_Md_node_71 rfl ?_
            refine xz_if_ne (tgt := 80) C d_Md_node_73 (by decide) (by omega) (fun c73 => by exfalso; omega) (fun c73 => ?_)
            refine xr_iconst C d_Md_node_76 ?_
            refine xr_goto (tgt := 90) C d_Md_node_77 (by decide) ?_
            refine xr_put (k := 29) C xf_Md_86 hw29 (by decide) rfl rfl (Nat.le_of_ble_eq_true rfl) d_Md_node_90 ?_
            refine xr_aload_n C 0 d_Md_node_93 rfl rfl ?_
            refine xr_get (k := 29) C xg_Md_86 rfl (by decide) rfl d_Md_node_94 ?_
            refine xz_if_eq (tgt := 104) C d_Md_node_97 (by decide) (by omega) (fun c97 => by exfalso; omega) (fun c97 => ?_)
            refine xr_iconst C d_Md_node_100 ?_
            refine xr_goto (tgt := 112) C d_Md_node_101 (by decide) ?_
            exact xr_iret C E ⟨rfl, rfl, _, rfl, by first | exact Or.inl ⟨by omega, by omega, S', z, hz, hy9, hMT', fun k hk => (hfr k hk).trans (va_ne (by omega))⟩ | exact Or.inr (Or.inl ⟨by omega, rfl, rfl⟩) | exact Or.inr (Or.inr ⟨by omega, by omega, rfl, rfl⟩)⟩ (by decide) (by decide) d_Md_node_112
          · skip
            refine xr_iconst C d_Md_node_63 ?_
            refine xr_goto (tgt := 68) C d_Md_node_64 (by decide) ?_
            refine xr_istore C d_Md_node_68 (by decide) ?_
            refine xr_aload_n C 0 d_Md_node_70 rfl rfl ?_
            refine xr_iload C d_Md_node_71 rfl ?_
            refine xz_if_ne (tgt := 80) C d_Md_node_73 (by decide) (by omega) (fun c73 => by exfalso; omega) (fun c73 => ?_)
            refine xr_iconst C d_Md_node_76 ?_
            refine xr_goto (tgt := 90) C d_Md_node_77 (by decide) ?_
            refine xr_put (k := 29) C xf_Md_86 hw29 (by decide) rfl rfl (Nat.le_of_ble_eq_true rfl) d_Md_node_90 ?_
            refine xr_aload_n C 0 d_Md_node_93 rfl rfl ?_
            refine xr_get (k := 29) C xg_Md_86 rfl (by decide) rfl d_Md_node_94 ?_
            refine xz_if_eq (tgt := 104) C d_Md_node_97 (by decide) (by omega) (fun c97 => by exfalso; omega) (fun c97 => ?_)
            refine xr_iconst C d_Md_node_100 ?_
            refine xr_goto (tgt := 112) C d_Md_node_101 (by decide) ?_
            exact xr_iret C E ⟨rfl, rfl, _, rfl, by first | exact Or.inl ⟨by omega, by omega, S', z, hz, hy9, hMT', fun k hk => (hfr k hk).trans (va_ne (by omega))⟩ | exact Or.inr (Or.inl ⟨by omega, rfl, rfl⟩) | exact Or.inr (Or.inr ⟨by omega, by omega, rfl, rfl⟩)⟩ (by decide) (by decide) d_Md_node_112
        · skip
          refine xr_iload_n C 3 d_Md_node_50 rfl rfl ?_
          refine xr_iconst C d_Md_node_51 ?_
          refine xz_icmp_ne (tgt := 67) C d_Md_node_52 (by decide) (by omega) (by omega) (fun c52 => ?_) (fun c52 => ?_)
          · skip
            refine xr_iconst C d_Md_node_67 ?_
            refine xr_istore C d_Md_node_68 (by decide) ?_
            refine xr_aload_n C 0 d_Md_node_70 rfl rfl ?_
            refine xr_iload C d_Md_node_71 rfl ?_
            refine xz_if_ne (tgt := 80) C d_Md_node_73 (by decide) (by omega) (fun c73 => by exfalso; omega) (fun c73 => ?_)
            refine xr_iconst C d_Md_node_76 ?_
            refine xr_goto (tgt := 90) C d_Md_node_77 (by decide) ?_
            refine xr_put (k := 29) C xf_Md_86 hw29 (by decide) rfl rfl (Nat.le_of_ble_eq_true rfl) d_Md_node_90 ?_
            refine xr_aload_n C 0 d_Md_node_93 rfl rfl ?_
            refine xr_get (k := 29) C xg_Md_86 rfl (by decide) rfl d_Md_node_94 ?_
            refine xz_if_eq (tgt := 104) C d_Md_node_97 (by decide) (by omega) (fun c97 => by exfalso; omega) (fun c97 => ?_)
            refine xr_iconst C d_Md_node_100 ?_
            refine xr_goto (tgt := 112) C d_Md_node_101 (by decide) ?_
            exact xr_iret C E ⟨rfl, rfl, _, rfl, by first | exact Or.inl ⟨by omega, by omega, S', z, hz, hy9, hMT', fun k hk => (hfr k hk).trans (va_ne (by omega))⟩ | exact Or.inr (Or.inl ⟨by omega, rfl, rfl⟩) | exact Or.inr (Or.inr ⟨by omega, by omega, rfl, rfl⟩)⟩ (by decide) (by decide) d_Md_node_112
          · skip
            refine xr_goto (tgt := 63) C d_Md_node_55 (by decide) ?_
            refine xr_iconst C d_Md_node_63 ?_
            refine xr_goto (tgt := 68) C d_Md_node_64 (by decide) ?_
            refine xr_istore C d_Md_node_68 (by decide) ?_
            refine xr_aload_n C 0 d_Md_node_70 rfl rfl ?_
            refine xr_iload C d_Md_node_71 rfl ?_
            refine xz_if_ne (tgt := 80) C d_Md_node_73 (by decide) (by omega) (fun c73 => by exfalso; omega) (fun c73 => ?_)
            refine xr_iconst C d_Md_node_76 ?_
            refine xr_goto (tgt := 90) C d_Md_node_77 (by decide) ?_
            refine xr_put (k := 29) C xf_Md_86 hw29 (by decide) rfl rfl (Nat.le_of_ble_eq_true rfl) d_Md_node_90 ?_
            refine xr_aload_n C 0 d_Md_node_93 rfl rfl ?_
            refine xr_get (k := 29) C xg_Md_86 rfl (by decide) rfl d_Md_node_94 ?_
            refine xz_if_eq (tgt := 104) C d_Md_node_97 (by decide) (by omega) (fun c97 => by exfalso; omega) (fun c97 => ?_)
            refine xr_iconst C d_Md_node_100 ?_
            refine xr_goto (tgt := 112) C d_Md_node_101 (by decide) ?_
            exact xr_iret C E ⟨rfl, rfl, _, rfl, by first | exact Or.inl ⟨by omega, by omega, S', z, hz, hy9, hMT', fun k hk => (hfr k hk).trans (va_ne (by omega))⟩ | exact Or.inr (Or.inl ⟨by omega, rfl, rfl⟩) | exact Or.inr (Or.inr ⟨by omega, by omega, rfl, rfl⟩)⟩ (by decide) (by decide) d_Md_node_112
  · skip
    have b5 : (0 ≤ x ∧ x < (sN S : Int)) := of_decide_eq_true c5
    refine xr_aload_n C 0 d_Md_node_8 rfl rfl ?_
    refine xr_iload_n C 3 d_Md_node_9 rfl rfl ?_
    refine xr_callV (k9 := 29) C (m_Md_isTree hw29 (by omega) (x := y) (by omega)) xm_Md_109 x2_Md_isTree hw29 (by decide) rfl (by decide) (by decide) (Nat.le_of_ble_eq_true rfl) rfl d_Md_node_10 (fun En n9 ad9 w9 hx9 => hx9.elim) (fun v n9 ad9 w9 hp => ?_)
    obtain ⟨rfl, rfl, rfl, rfl⟩ := hp
    show XW _ _ _ _ _ _ 13 _ (_ :: _)
    refine xb_if_ne (tgt := 27) C d_Md_node_13 (by decide)  (fun c13 => ?_) (fun c13 => ?_)
    · skip
      have b13 : (0 ≤ y ∧ y < (sN S : Int)) := of_decide_eq_true c13
      refine xr_iconst C d_Md_node_27 ?_
      refine xr_goto (tgt := 32) C d_Md_node_28 (by decide) ?_
      refine xr_istore C d_Md_node_32 (by decide) ?_
      refine xr_iload_n C 1 d_Md_node_34 rfl rfl ?_
      refine xz_if_lt (tgt := 67) C d_Md_node_35 (by decide) (by omega) (fun c35 => ?_) (fun c35 => ?_)
      · skip
        refine xr_iconst C d_Md_node_67 ?_
        refine xr_istore C d_Md_node_68 (by decide) ?_
        refine xr_aload_n C 0 d_Md_node_70 rfl rfl ?_
        refine xr_iload C d_Md_node_71 rfl ?_
        refine xz_if_ne (tgt := 80) C d_Md_node_73 (by decide) (by omega) (fun c73 => ?_) (fun c73 => by exfalso; omega)
        refine xr_iload C d_Md_node_80 rfl ?_
        refine xz_if_ne (tgt := 89) C d_Md_node_82 (by decide) (by omega) (fun c82 => by exfalso; omega) (fun c82 => ?_)
        refine xr_iconst C d_Md_node_85 ?_
        refine xr_goto (tgt := 90) C d_Md_node_86 (by decide) ?_
        refine xr_put (k := 29) C xf_Md_86 hw29 (by decide) rfl rfl (Nat.le_of_ble_eq_true rfl) d_Md_node_90 ?_
        refine xr_aload_n C 0 d_Md_node_93 rfl rfl ?_
        refine xr_get (k := 29) C xg_Md_86 rfl (by decide) rfl d_Md_node_94 ?_
        refine xz_if_eq (tgt := 104) C d_Md_node_97 (by decide) (by omega) (fun c97 => by exfalso; omega) (fun c97 => ?_)
        refine xr_iconst C d_Md_node_100 ?_
        refine xr_goto (tgt := 112) C d_Md_node_101 (by decide) ?_
        exact xr_iret C E ⟨rfl, rfl, _, rfl, by first | exact Or.inl ⟨by omega, by omega, S', z, hz, hy9, hMT', fun k hk => (hfr k hk).trans (va_ne (by omega))⟩ | exact Or.inr (Or.inl ⟨by omega, rfl, rfl⟩) | exact Or.inr (Or.inr ⟨by omega, by omega, rfl, rfl⟩)⟩ (by decide) (by decide) d_Md_node_112
      · skip
        refine xr_iload_n C 1 d_Md_node_38 rfl rfl ?_
        refine xr_bipush C d_Md_node_39 (by decide) ?_
        refine xz_icmp_gt (tgt := 67) C d_Md_node_41 (by decide) (by omega) (by omega) (fun c41 => ?_) (fun c41 => ?_)
        · skip
          refine xr_iconst C d_Md_node_67 ?_
          refine xr_istore C d_Md_node_68 (by decide) ?_
          refine xr_aload_n C 0 d_Md_node_70 rfl rfl ?_
          refine xr_iload C d_Md_node_71 rfl ?_
          refine xz_if_ne (tgt := 80) C d_Md_node_73 (by decide) (by omega) (fun c73 => ?_) (fun c73 => by exfalso; omega)
          refine xr_iload C d_Md_node_80 rfl ?_
          refine xz_if_ne (tgt := 89) C d_Md_node_82 (by decide) (by omega) (fun c82 => by exfalso; omega) (fun c82 => ?_)
          refine xr_iconst C d_Md_node_85 ?_
          refine xr_goto (tgt := 90) C d_Md_node_86 (by decide) ?_
          refine xr_put (k := 29) C xf_Md_86 hw29 (by decide) rfl rfl (Nat.le_of_ble_eq_true rfl) d_Md_node_90 ?_
          refine xr_aload_n C 0 d_Md_node_93 rfl rfl ?_
          refine xr_get (k := 29) C xg_Md_86 rfl (by decide) rfl d_Md_node_94 ?_
          refine xz_if_eq (tgt := 104) C d_Md_node_97 (by decide) (by omega) (fun c97 => by exfalso; omega) (fun c97 => ?_)
          refine xr_iconst C d_Md_node_100 ?_
          refine xr_goto (tgt := 112) C d_Md_node_101 (by decide) ?_
          exact xr_iret C E ⟨rfl, rfl, _, rfl, by first | exact Or.inl ⟨by omega, by omega, S', z, hz, hy9, hMT', fun k hk => (hfr k hk).trans (va_ne (by omega))⟩ | exact Or.inr (Or.inl ⟨by omega, rfl, rfl⟩) | exact Or.inr (Or.inr ⟨by omega, by omega, rfl, rfl⟩)⟩ (by decide) (by decide) d_Md_node_112
        · skip
          refine xr_iload_n C 1 d_Md_node_44 rfl rfl ?_
          refine xr_bipush C d_Md_node_45 (by decide) ?_
          refine xz_icmp_ge (tgt := 58) C d_Md_node_47 (by decide) (by omega) (by omega) (fun c47 => ?_) (fun c47 => ?_)
          · skip
            refine xr_iload_n C 3 d_Md_node_58 rfl rfl ?_
            refine xr_iconst C d_Md_node_59 ?_
            refine xz_icmp_eq (tgt := 67) C d_Md_node_60 (by decide) (by omega) (by omega) (fun c60 => ?_) (fun c60 => ?_)
            · skip
              refine xr_iconst C d_Md_node_67 ?_
              refine xr_istore C d_Md_node_68 (by decide) ?_
              refine xr_aload_n C 0 d_Md_node_70 rfl rfl ?_
              refine xr_iload C d_Md_node_71 rfl ?_
              refine xz_if_ne (tgt := 80) C d_Md_node_73 (by decide) (by omega) (fun c73 => ?_) (fun c73 => by exfalso; omega)
              refine xr_iload C d_Md_node_80 rfl ?_
              refine xz_if_ne (tgt := 89) C d_Md_node_82 (by decide) (by omega) (fun c82 => by exfalso; omega) (fun c82 => ?_)
              refine xr_iconst C d_Md_node_85 ?_
              refine xr_goto (tgt := 90) C d_Md_node_86 (by decide) ?_
              refine xr_put (k := 29) C xf_Md_86 hw29 (by decide) rfl rfl (Nat.le_of_ble_eq_true rfl) d_Md_node_90 ?_
              refine xr_aload_n C 0 d_Md_node_93 rfl rfl ?_
              refine xr_get (k := 29) C xg_Md_86 rfl (by decide) rfl d_Md_node_94 ?_
              refine xz_if_eq (tgt := 104) C d_Md_node_97 (by decide) (by omega) (fun c97 => by exfalso; omega) (fun c97 => ?_)
              refine xr_iconst C d_Md_node_100 ?_
              refine xr_goto (tgt := 112) C d_Md_node_101 (by decide) ?_
              exact xr_iret C E ⟨rfl, rfl, _, rfl, by first | exact Or.inl ⟨by omega, by omega, S', z, hz, hy9, hMT', fun k hk => (hfr k hk).trans (va_ne (by omega))⟩ | exact Or.inr (Or.inl ⟨by omega, rfl, rfl⟩) | exact Or.inr (Or.inr ⟨by omega, by omega, rfl, rfl⟩)⟩ (by decide) (by decide) d_Md_node_112
            · skip
              refine xr_iconst C d_Md_node_63 ?_
              refine xr_goto (tgt := 68) C d_Md_node_64 (by decide) ?_
              refine xr_istore C d_Md_node_68 (by decide) ?_
              refine xr_aload_n C 0 d_Md_node_70 rfl rfl ?_
              refine xr_iload C d_Md_node_71 rfl ?_
              refine xz_if_ne (tgt := 80) C d_Md_node_73 (by decide) (by omega) (fun c73 => ?_) (fun c73 => by exfalso; omega)
              refine xr_iload C d_Md_node_80 rfl ?_
              refine xz_if_ne (tgt := 89) C d_Md_node_82 (by decide) (by omega) (fun c82 => ?_) (fun c82 => by exfalso; omega)
              refine xr_iconst C d_Md_node_89 ?_
              refine xr_put (k := 29) C xf_Md_86 hw29 (by decide) rfl rfl (Nat.le_of_ble_eq_true rfl) d_Md_node_90 ?_
              refine xr_aload_n C 0 d_Md_node_93 rfl rfl ?_
              refine xr_get (k := 29) C xg_Md_86 rfl (by decide) rfl d_Md_node_94 ?_
              refine xz_if_eq (tgt := 104) C d_Md_node_97 (by decide) (by omega) (fun c97 => ?_) (fun c97 => by exfalso; omega)
              refine xr_aload_n C 0 d_Md_node_104 rfl rfl ?_
              refine xr_iload_n C 1 d_Md_node_105 rfl rfl ?_
              refine xr_iload_n C 2 d_Md_node_106 rfl rfl ?_
              refine xr_iload_n C 3 d_Md_node_107 rfl rfl ?_
              refine xr_iconst C d_Md_node_108 ?_
              refine xr_callV (k9 := 29) C (m_Md_ask (w := va_up w 29 (mdO ad (sN S : Int) ru ro sp nr ns 0 se fa so)) (S := S) (th := 0) (s := h) (a := x) (b := y) (e := 3) ⟨sg, fs, sn, wt, pl, dp, ho, rfl, hw30, hw31, hw32, hw33, hw34, hw35, hw36, hA⟩ hT (by unfold shp; omega)) xm_Md_105 x2_Md_ask rfl (by decide) rfl (by decide) (by decide) (Nat.le_of_ble_eq_true rfl) rfl d_Md_node_109 (fun En n9 ad9 w9 hx9 => hx9.elim) (fun v n9 ad9 w9 hp => ?_)
              obtain ⟨rfl, rfl, v, rfl, S', z, hz, hy9, hMT', hfr⟩ := hp
              show XW _ _ _ _ _ _ 112 _ (_ :: _)
              exact xr_iret C E ⟨rfl, rfl, _, rfl, by first | exact Or.inl ⟨by omega, by omega, S', z, hz, hy9, hMT', fun k hk => (hfr k hk).trans (va_ne (by omega))⟩ | exact Or.inr (Or.inl ⟨by omega, rfl, rfl⟩) | exact Or.inr (Or.inr ⟨by omega, by omega, rfl, rfl⟩)⟩ (by decide) (by decide) d_Md_node_112
          · skip
            refine xr_iload_n C 3 d_Md_node_50 rfl rfl ?_
            refine xr_iconst C d_Md_node_51 ?_
            refine xz_icmp_ne (tgt := 67) C d_Md_node_52 (by decide) (by omega) (by omega) (fun c52 => ?_) (fun c52 => ?_)
            · skip
              refine xr_iconst C d_Md_node_67 ?_
              refine xr_istore C d_Md_node_68 (by decide) ?_
              refine xr_aload_n C 0 d_Md_node_70 rfl rfl ?_
              refine xr_iload C d_Md_node_71 rfl ?_
              refine xz_if_ne (tgt := 80) C d_Md_node_73 (by decide) (by omega) (fun c73 => ?_) (fun c73 => by exfalso; omega)
              refine xr_iload C d_Md_node_80 rfl ?_
              refine xz_if_ne (tgt := 89) C d_Md_node_82 (by decide) (by omega) (fun c82 => by exfalso; omega) (fun c82 => ?_)
              refine xr_iconst C d_Md_node_85 ?_
              refine xr_goto (tgt := 90) C d_Md_node_86 (by decide) ?_
              refine xr_put (k := 29) C xf_Md_86 hw29 (by decide) rfl rfl (Nat.le_of_ble_eq_true rfl) d_Md_node_90 ?_
              refine xr_aload_n C 0 d_Md_node_93 rfl rfl ?_
              refine xr_get (k := 29) C xg_Md_86 rfl (by decide) rfl d_Md_node_94 ?_
              refine xz_if_eq (tgt := 104) C d_Md_node_97 (by decide) (by omega) (fun c97 => by exfalso; omega) (fun c97 => ?_)
              refine xr_iconst C d_Md_node_100 ?_
              refine xr_goto (tgt := 112) C d_Md_node_101 (by decide) ?_
              exact xr_iret C E ⟨rfl, rfl, _, rfl, by first | exact Or.inl ⟨by omega, by omega, S', z, hz, hy9, hMT', fun k hk => (hfr k hk).trans (va_ne (by omega))⟩ | exact Or.inr (Or.inl ⟨by omega, rfl, rfl⟩) | exact Or.inr (Or.inr ⟨by omega, by omega, rfl, rfl⟩)⟩ (by decide) (by decide) d_Md_node_112
            · skip
              refine xr_goto (tgt := 63) C d_Md_node_55 (by decide) ?_
              refine xr_iconst C d_Md_node_63 ?_
              refine xr_goto (tgt := 68) C d_Md_node_64 (by decide) ?_
              refine xr_istore C d_Md_node_68 (by decide) ?_
              refine xr_aload_n C 0 d_Md_node_70 rfl rfl ?_
              refine xr_iload C d_Md_node_71 rfl ?_
              refine xz_if_ne (tgt := 80) C d_Md_node_73 (by decide) (by omega) (fun c73 => ?_) (fun c73 => by exfalso; omega)
              refine xr_iload C d_Md_node_80 rfl ?_
              refine xz_if_ne (tgt := 89) C d_Md_node_82 (by decide) (by omega) (fun c82 => ?_) (fun c82 => by exfalso; omega)
              refine xr_iconst C d_Md_node_89 ?_
              refine xr_put (k := 29) C xf_Md_86 hw29 (by decide) rfl rfl (Nat.le_of_ble_eq_true rfl) d_Md_node_90 ?_
              refine xr_aload_n C 0 d_Md_node_93 rfl rfl ?_
              refine xr_get (k := 29) C xg_Md_86 rfl (by decide) rfl d_Md_node_94 ?_
              refine xz_if_eq (tgt := 104) C d_Md_node_97 (by decide) (by omega) (fun c97 => ?_) (fun c97 => by exfalso; omega)
              refine xr_aload_n C 0 d_Md_node_104 rfl rfl ?_
              refine xr_iload_n C 1 d_Md_node_105 rfl rfl ?_
              refine xr_iload_n C 2 d_Md_node_106 rfl rfl ?_
              refine xr_iload_n C 3 d_Md_node_107 rfl rfl ?_
              refine xr_iconst C d_Md_node_108 ?_
              refine xr_callV (k9 := 29) C (m_Md_ask (w := va_up w 29 (mdO ad (sN S : Int) ru ro sp nr ns 0 se fa so)) (S := S) (th := 0) (s := h) (a := x) (b := y) (e := 3) ⟨sg, fs, sn, wt, pl, dp, ho, rfl, hw30, hw31, hw32, hw33, hw34, hw35, hw36, hA⟩ hT (by unfold shp; omega)) xm_Md_105 x2_Md_ask rfl (by decide) rfl (by decide) (by decide) (Nat.le_of_ble_eq_true rfl) rfl d_Md_node_109 (fun En n9 ad9 w9 hx9 => hx9.elim) (fun v n9 ad9 w9 hp => ?_)
              obtain ⟨rfl, rfl, v, rfl, S', z, hz, hy9, hMT', hfr⟩ := hp
              show XW _ _ _ _ _ _ 112 _ (_ :: _)
              exact xr_iret C E ⟨rfl, rfl, _, rfl, by first | exact Or.inl ⟨by omega, by omega, S', z, hz, hy9, hMT', fun k hk => (hfr k hk).trans (va_ne (by omega))⟩ | exact Or.inr (Or.inl ⟨by omega, rfl, rfl⟩) | exact Or.inr (Or.inr ⟨by omega, by omega, rfl, rfl⟩)⟩ (by decide) (by decide) d_Md_node_112
    · skip
      have b13 : ¬ (0 ≤ y ∧ y < (sN S : Int)) := of_decide_eq_false c13
      refine xr_iload_n C 3 d_Md_node_16 rfl rfl ?_
      refine xr_iconst C d_Md_node_17 ?_
      refine xz_icmp_ne (tgt := 31) C d_Md_node_18 (by decide) (by omega) (by omega) (fun c18 => ?_) (fun c18 => ?_)
      · skip
        refine xr_iconst C d_Md_node_31 ?_
        refine xr_istore C d_Md_node_32 (by decide) ?_
        refine xr_iload_n C 1 d_Md_node_34 rfl rfl ?_
        refine xz_if_lt (tgt := 67) C d_Md_node_35 (by decide) (by omega) (fun c35 => ?_) (fun c35 => ?_)
        · skip
          refine xr_iconst C d_Md_node_67 ?_
          refine xr_istore C d_Md_node_68 (by decide) ?_
          refine xr_aload_n C 0 d_Md_node_70 rfl rfl ?_
          refine xr_iload C d_Md_node_71 rfl ?_
          refine xz_if_ne (tgt := 80) C d_Md_node_73 (by decide) (by omega) (fun c73 => by exfalso; omega) (fun c73 => ?_)
          refine xr_iconst C d_Md_node_76 ?_
          refine xr_goto (tgt := 90) C d_Md_node_77 (by decide) ?_
          refine xr_put (k := 29) C xf_Md_86 hw29 (by decide) rfl rfl (Nat.le_of_ble_eq_true rfl) d_Md_node_90 ?_
          refine xr_aload_n C 0 d_Md_node_93 rfl rfl ?_
          refine xr_get (k := 29) C xg_Md_86 rfl (by decide) rfl d_Md_node_94 ?_
          refine xz_if_eq (tgt := 104) C d_Md_node_97 (by decide) (by omega) (fun c97 => by exfalso; omega) (fun c97 => ?_)
          refine xr_iconst C d_Md_node_100 ?_
          refine xr_goto (tgt := 112) C d_Md_node_101 (by decide) ?_
          exact xr_iret C E ⟨rfl, rfl, _, rfl, by first | exact Or.inl ⟨by omega, by omega, S', z, hz, hy9, hMT', fun k hk => (hfr k hk).trans (va_ne (by omega))⟩ | exact Or.inr (Or.inl ⟨by omega, rfl, rfl⟩) | exact Or.inr (Or.inr ⟨by omega, by omega, rfl, rfl⟩)⟩ (by decide) (by decide) d_Md_node_112
        · skip
          refine xr_iload_n C 1 d_Md_node_38 rfl rfl ?_
          refine xr_bipush C d_Md_node_39 (by decide) ?_
          refine xz_icmp_gt (tgt := 67) C d_Md_node_41 (by decide) (by omega) (by omega) (fun c41 => ?_) (fun c41 => ?_)
          · skip
            refine xr_iconst C d_Md_node_67 ?_
            refine xr_istore C d_Md_node_68 (by decide) ?_
            refine xr_aload_n C 0 d_Md_node_70 rfl rfl ?_
            refine xr_iload C d_Md_node_71 rfl ?_
            refine xz_if_ne (tgt := 80) C d_Md_node_73 (by decide) (by omega) (fun c73 => by exfalso; omega) (fun c73 => ?_)
            refine xr_iconst C d_Md_node_76 ?_
            refine xr_goto (tgt := 90) C d_Md_node_77 (by decide) ?_
            refine xr_put (k := 29) C xf_Md_86 hw29 (by decide) rfl rfl (Nat.le_of_ble_eq_true rfl) d_Md_node_90 ?_
            refine xr_aload_n C 0 d_Md_node_93 rfl rfl ?_
            refine xr_get (k := 29) C xg_Md_86 rfl (by decide) rfl d_Md_node_94 ?_
            refine xz_if_eq (tgt := 104) C d_Md_node_97 (by decide) (by omega) (fun c97 => by exfalso; omega) (fun c97 => ?_)
            refine xr_iconst C d_Md_node_100 ?_
            refine xr_goto (tgt := 112) C d_Md_node_101 (by decide) ?_
            exact xr_iret C E ⟨rfl, rfl, _, rfl, by first | exact Or.inl ⟨by omega, by omega, S', z, hz, hy9, hMT', fun k hk => (hfr k hk).trans (va_ne (by omega))⟩ | exact Or.inr (Or.inl ⟨by omega, rfl, rfl⟩) | exact Or.inr (Or.inr ⟨by omega, by omega, rfl, rfl⟩)⟩ (by decide) (by decide) d_Md_node_112
          · skip
            refine xr_iload_n C 1 d_Md_node_44 rfl rfl ?_
            refine xr_bipush C d_Md_node_45 (by decide) ?_
            refine xz_icmp_ge (tgt := 58) C d_Md_node_47 (by decide) (by omega) (by omega) (fun c47 => ?_) (fun c47 => ?_)
            · skip
              refine xr_iload_n C 3 d_Md_node_58 rfl rfl ?_
              refine xr_iconst C d_Md_node_59 ?_
              refine xz_icmp_eq (tgt := 67) C d_Md_node_60 (by decide) (by omega) (by omega) (fun c60 => ?_) (fun c60 => ?_)
              · skip
                refine xr_iconst C d_Md_node_67 ?_
                refine xr_istore C d_Md_node_68 (by decide) ?_
                refine xr_aload_n C 0 d_Md_node_70 rfl rfl ?_
                refine xr_iload C d_Md_node_71 rfl ?_
                refine xz_if_ne (tgt := 80) C d_Md_node_73 (by decide) (by omega) (fun c73 => by exfalso; omega) (fun c73 => ?_)
                refine xr_iconst C d_Md_node_76 ?_
                refine xr_goto (tgt := 90) C d_Md_node_77 (by decide) ?_
                refine xr_put (k := 29) C xf_Md_86 hw29 (by decide) rfl rfl (Nat.le_of_ble_eq_true rfl) d_Md_node_90 ?_
                refine xr_aload_n C 0 d_Md_node_93 rfl rfl ?_
                refine xr_get (k := 29) C xg_Md_86 rfl (by decide) rfl d_Md_node_94 ?_
                refine xz_if_eq (tgt := 104) C d_Md_node_97 (by decide) (by omega) (fun c97 => by exfalso; omega) (fun c97 => ?_)
                refine xr_iconst C d_Md_node_100 ?_
                refine xr_goto (tgt := 112) C d_Md_node_101 (by decide) ?_
                exact xr_iret C E ⟨rfl, rfl, _, rfl, by first | exact Or.inl ⟨by omega, by omega, S', z, hz, hy9, hMT', fun k hk => (hfr k hk).trans (va_ne (by omega))⟩ | exact Or.inr (Or.inl ⟨by omega, rfl, rfl⟩) | exact Or.inr (Or.inr ⟨by omega, by omega, rfl, rfl⟩)⟩ (by decide) (by decide) d_Md_node_112
              · skip
                refine xr_iconst C d_Md_node_63 ?_
                refine xr_goto (tgt := 68) C d_Md_node_64 (by decide) ?_
                refine xr_istore C d_Md_node_68 (by decide) ?_
                refine xr_aload_n C 0 d_Md_node_70 rfl rfl ?_
                refine xr_iload C d_Md_node_71 rfl ?_
                refine xz_if_ne (tgt := 80) C d_Md_node_73 (by decide) (by omega) (fun c73 => by exfalso; omega) (fun c73 => ?_)
                refine xr_iconst C d_Md_node_76 ?_
                refine xr_goto (tgt := 90) C d_Md_node_77 (by decide) ?_
                refine xr_put (k := 29) C xf_Md_86 hw29 (by decide) rfl rfl (Nat.le_of_ble_eq_true rfl) d_Md_node_90 ?_
                refine xr_aload_n C 0 d_Md_node_93 rfl rfl ?_
                refine xr_get (k := 29) C xg_Md_86 rfl (by decide) rfl d_Md_node_94 ?_
                refine xz_if_eq (tgt := 104) C d_Md_node_97 (by decide) (by omega) (fun c97 => by exfalso; omega) (fun c97 => ?_)
                refine xr_iconst C d_Md_node_100 ?_
                refine xr_goto (tgt := 112) C d_Md_node_101 (by decide) ?_
                exact xr_iret C E ⟨rfl, rfl, _, rfl, by first | exact Or.inl ⟨by omega, by omega, S', z, hz, hy9, hMT', fun k hk => (hfr k hk).trans (va_ne (by omega))⟩ | exact Or.inr (Or.inl ⟨by omega, rfl, rfl⟩) | exact Or.inr (Or.inr ⟨by omega, by omega, rfl, rfl⟩)⟩ (by decide) (by decide) d_Md_node_112
            · skip
              refine xr_iload_n C 3 d_Md_node_50 rfl rfl ?_
              refine xr_iconst C d_Md_node_51 ?_
              refine xz_icmp_ne (tgt := 67) C d_Md_node_52 (by decide) (by omega) (by omega) (fun c52 => ?_) (fun c52 => ?_)
              · skip
                refine xr_iconst C d_Md_node_67 ?_
                refine xr_istore C d_Md_node_68 (by decide) ?_
                refine xr_aload_n C 0 d_Md_node_70 rfl rfl ?_
                refine xr_iload C d_Md_node_71 rfl ?_
                refine xz_if_ne (tgt := 80) C d_Md_node_73 (by decide) (by omega) (fun c73 => by exfalso; omega) (fun c73 => ?_)
                refine xr_iconst C d_Md_node_76 ?_
                refine xr_goto (tgt := 90) C d_Md_node_77 (by decide) ?_
                refine xr_put (k := 29) C xf_Md_86 hw29 (by decide) rfl rfl (Nat.le_of_ble_eq_true rfl) d_Md_node_90 ?_
                refine xr_aload_n C 0 d_Md_node_93 rfl rfl ?_
                refine xr_get (k := 29) C xg_Md_86 rfl (by decide) rfl d_Md_node_94 ?_
                refine xz_if_eq (tgt := 104) C d_Md_node_97 (by decide) (by omega) (fun c97 => by exfalso; omega) (fun c97 => ?_)
                refine xr_iconst C d_Md_node_100 ?_
                refine xr_goto (tgt := 112) C d_Md_node_101 (by decide) ?_
                exact xr_iret C E ⟨rfl, rfl, _, rfl, by first | exact Or.inl ⟨by omega, by omega, S', z, hz, hy9, hMT', fun k hk => (hfr k hk).trans (va_ne (by omega))⟩ | exact Or.inr (Or.inl ⟨by omega, rfl, rfl⟩) | exact Or.inr (Or.inr ⟨by omega, by omega, rfl, rfl⟩)⟩ (by decide) (by decide) d_Md_node_112
              · skip
                refine xr_goto (tgt := 63) C d_Md_node_55 (by decide) ?_
                refine xr_iconst C d_Md_node_63 ?_
                refine xr_goto (tgt := 68) C d_Md_node_64 (by decide) ?_
                refine xr_istore C d_Md_node_68 (by decide) ?_
                refine xr_aload_n C 0 d_Md_node_70 rfl rfl ?_
                refine xr_iload C d_Md_node_71 rfl ?_
                refine xz_if_ne (tgt := 80) C d_Md_node_73 (by decide) (by omega) (fun c73 => by exfalso; omega) (fun c73 => ?_)
                refine xr_iconst C d_Md_node_76 ?_
                refine xr_goto (tgt := 90) C d_Md_node_77 (by decide) ?_
                refine xr_put (k := 29) C xf_Md_86 hw29 (by decide) rfl rfl (Nat.le_of_ble_eq_true rfl) d_Md_node_90 ?_
                refine xr_aload_n C 0 d_Md_node_93 rfl rfl ?_
                refine xr_get (k := 29) C xg_Md_86 rfl (by decide) rfl d_Md_node_94 ?_
                refine xz_if_eq (tgt := 104) C d_Md_node_97 (by decide) (by omega) (fun c97 => by exfalso; omega) (fun c97 => ?_)
                refine xr_iconst C d_Md_node_100 ?_
                refine xr_goto (tgt := 112) C d_Md_node_101 (by decide) ?_
                exact xr_iret C E ⟨rfl, rfl, _, rfl, by first | exact Or.inl ⟨by omega, by omega, S', z, hz, hy9, hMT', fun k hk => (hfr k hk).trans (va_ne (by omega))⟩ | exact Or.inr (Or.inl ⟨by omega, rfl, rfl⟩) | exact Or.inr (Or.inr ⟨by omega, by omega, rfl, rfl⟩)⟩ (by decide) (by decide) d_Md_node_112
      · skip
        refine xr_iload_n C 1 d_Md_node_21 rfl rfl ?_
        refine xr_bipush C d_Md_node_22 (by decide) ?_
        refine xz_icmp_ge (tgt := 31) C d_Md_node_24 (by decide) (by omega) (by omega) (fun c24 => ?_) (fun c24 => ?_)
        · skip
          refine xr_iconst C d_Md_node_31 ?_
          refine xr_istore C d_Md_node_32 (by decide) ?_
          refine xr_iload_n C 1 d_Md_node_34 rfl rfl ?_
          refine xz_if_lt (tgt := 67) C d_Md_node_35 (by decide) (by omega) (fun c35 => ?_) (fun c35 => ?_)
          · skip
            refine xr_iconst C d_Md_node_67 ?_
            refine xr_istore C d_Md_node_68 (by decide) ?_
            refine xr_aload_n C 0 d_Md_node_70 rfl rfl ?_
            refine xr_iload C d_Md_node_71 rfl ?_
            refine xz_if_ne (tgt := 80) C d_Md_node_73 (by decide) (by omega) (fun c73 => by exfalso; omega) (fun c73 => ?_)
            refine xr_iconst C d_Md_node_76 ?_
            refine xr_goto (tgt := 90) C d_Md_node_77 (by decide) ?_
            refine xr_put (k := 29) C xf_Md_86 hw29 (by decide) rfl rfl (Nat.le_of_ble_eq_true rfl) d_Md_node_90 ?_
            refine xr_aload_n C 0 d_Md_node_93 rfl rfl ?_
            refine xr_get (k := 29) C xg_Md_86 rfl (by decide) rfl d_Md_node_94 ?_
            refine xz_if_eq (tgt := 104) C d_Md_node_97 (by decide) (by omega) (fun c97 => by exfalso; omega) (fun c97 => ?_)
            refine xr_iconst C d_Md_node_100 ?_
            refine xr_goto (tgt := 112) C d_Md_node_101 (by decide) ?_
            exact xr_iret C E ⟨rfl, rfl, _, rfl, by first | exact Or.inl ⟨by omega, by omega, S', z, hz, hy9, hMT', fun k hk => (hfr k hk).trans (va_ne (by omega))⟩ | exact Or.inr (Or.inl ⟨by omega, rfl, rfl⟩) | exact Or.inr (Or.inr ⟨by omega, by omega, rfl, rfl⟩)⟩ (by decide) (by decide) d_Md_node_112
          · skip
            refine xr_iload_n C 1 d_Md_node_38 rfl rfl ?_
            refine xr_bipush C d_Md_node_39 (by decide) ?_
            refine xz_icmp_gt (tgt := 67) C d_Md_node_41 (by decide) (by omega) (by omega) (fun c41 => ?_) (fun c41 => ?_)
            · skip
              refine xr_iconst C d_Md_node_67 ?_
              refine xr_istore C d_Md_node_68 (by decide) ?_
              refine xr_aload_n C 0 d_Md_node_70 rfl rfl ?_
              refine xr_iload C d_Md_node_71 rfl ?_
              refine xz_if_ne (tgt := 80) C d_Md_node_73 (by decide) (by omega) (fun c73 => by exfalso; omega) (fun c73 => ?_)
              refine xr_iconst C d_Md_node_76 ?_
              refine xr_goto (tgt := 90) C d_Md_node_77 (by decide) ?_
              refine xr_put (k := 29) C xf_Md_86 hw29 (by decide) rfl rfl (Nat.le_of_ble_eq_true rfl) d_Md_node_90 ?_
              refine xr_aload_n C 0 d_Md_node_93 rfl rfl ?_
              refine xr_get (k := 29) C xg_Md_86 rfl (by decide) rfl d_Md_node_94 ?_
              refine xz_if_eq (tgt := 104) C d_Md_node_97 (by decide) (by omega) (fun c97 => by exfalso; omega) (fun c97 => ?_)
              refine xr_iconst C d_Md_node_100 ?_
              refine xr_goto (tgt := 112) C d_Md_node_101 (by decide) ?_
              exact xr_iret C E ⟨rfl, rfl, _, rfl, by first | exact Or.inl ⟨by omega, by omega, S', z, hz, hy9, hMT', fun k hk => (hfr k hk).trans (va_ne (by omega))⟩ | exact Or.inr (Or.inl ⟨by omega, rfl, rfl⟩) | exact Or.inr (Or.inr ⟨by omega, by omega, rfl, rfl⟩)⟩ (by decide) (by decide) d_Md_node_112
            · skip
              refine xr_iload_n C 1 d_Md_node_44 rfl rfl ?_
              refine xr_bipush C d_Md_node_45 (by decide) ?_
              refine xz_icmp_ge (tgt := 58) C d_Md_node_47 (by decide) (by omega) (by omega) (fun c47 => ?_) (fun c47 => ?_)
              · skip
                refine xr_iload_n C 3 d_Md_node_58 rfl rfl ?_
                refine xr_iconst C d_Md_node_59 ?_
                refine xz_icmp_eq (tgt := 67) C d_Md_node_60 (by decide) (by omega) (by omega) (fun c60 => ?_) (fun c60 => ?_)
                · skip
                  refine xr_iconst C d_Md_node_67 ?_
                  refine xr_istore C d_Md_node_68 (by decide) ?_
                  refine xr_aload_n C 0 d_Md_node_70 rfl rfl ?_
                  refine xr_iload C d_Md_node_71 rfl ?_
                  refine xz_if_ne (tgt := 80) C d_Md_node_73 (by decide) (by omega) (fun c73 => by exfalso; omega) (fun c73 => ?_)
                  refine xr_iconst C d_Md_node_76 ?_
                  refine xr_goto (tgt := 90) C d_Md_node_77 (by decide) ?_
                  refine xr_put (k := 29) C xf_Md_86 hw29 (by decide) rfl rfl (Nat.le_of_ble_eq_true rfl) d_Md_node_90 ?_
                  refine xr_aload_n C 0 d_Md_node_93 rfl rfl ?_
                  refine xr_get (k := 29) C xg_Md_86 rfl (by decide) rfl d_Md_node_94 ?_
                  refine xz_if_eq (tgt := 104) C d_Md_node_97 (by decide) (by omega) (fun c97 => by exfalso; omega) (fun c97 => ?_)
                  refine xr_iconst C d_Md_node_100 ?_
                  refine xr_goto (tgt := 112) C d_Md_node_101 (by decide) ?_
                  exact xr_iret C E ⟨rfl, rfl, _, rfl, by first | exact Or.inl ⟨by omega, by omega, S', z, hz, hy9, hMT', fun k hk => (hfr k hk).trans (va_ne (by omega))⟩ | exact Or.inr (Or.inl ⟨by omega, rfl, rfl⟩) | exact Or.inr (Or.inr ⟨by omega, by omega, rfl, rfl⟩)⟩ (by decide) (by decide) d_Md_node_112
                · skip
                  refine xr_iconst C d_Md_node_63 ?_
                  refine xr_goto (tgt := 68) C d_Md_node_64 (by decide) ?_
                  refine xr_istore C d_Md_node_68 (by decide) ?_
                  refine xr_aload_n C 0 d_Md_node_70 rfl rfl ?_
                  refine xr_iload C d_Md_node_71 rfl ?_
                  refine xz_if_ne (tgt := 80) C d_Md_node_73 (by decide) (by omega) (fun c73 => by exfalso; omega) (fun c73 => ?_)
                  refine xr_iconst C d_Md_node_76 ?_
                  refine xr_goto (tgt := 90) C d_Md_node_77 (by decide) ?_
                  refine xr_put (k := 29) C xf_Md_86 hw29 (by decide) rfl rfl (Nat.le_of_ble_eq_true rfl) d_Md_node_90 ?_
                  refine xr_aload_n C 0 d_Md_node_93 rfl rfl ?_
                  refine xr_get (k := 29) C xg_Md_86 rfl (by decide) rfl d_Md_node_94 ?_
                  refine xz_if_eq (tgt := 104) C d_Md_node_97 (by decide) (by omega) (fun c97 => by exfalso; omega) (fun c97 => ?_)
                  refine xr_iconst C d_Md_node_100 ?_
                  refine xr_goto (tgt := 112) C d_Md_node_101 (by decide) ?_
                  exact xr_iret C E ⟨rfl, rfl, _, rfl, by first | exact Or.inl ⟨by omega, by omega, S', z, hz, hy9, hMT', fun k hk => (hfr k hk).trans (va_ne (by omega))⟩ | exact Or.inr (Or.inl ⟨by omega, rfl, rfl⟩) | exact Or.inr (Or.inr ⟨by omega, by omega, rfl, rfl⟩)⟩ (by decide) (by decide) d_Md_node_112
              · skip
                refine xr_iload_n C 3 d_Md_node_50 rfl rfl ?_
                refine xr_iconst C d_Md_node_51 ?_
                refine xz_icmp_ne (tgt := 67) C d_Md_node_52 (by decide) (by omega) (by omega) (fun c52 => ?_) (fun c52 => ?_)
                · skip
                  refine xr_iconst C d_Md_node_67 ?_
                  refine xr_istore C d_Md_node_68 (by decide) ?_
                  refine xr_aload_n C 0 d_Md_node_70 rfl rfl ?_
                  refine xr_iload C d_Md_node_71 rfl ?_
                  refine xz_if_ne (tgt := 80) C d_Md_node_73 (by decide) (by omega) (fun c73 => by exfalso; omega) (fun c73 => ?_)
                  refine xr_iconst C d_Md_node_76 ?_
                  refine xr_goto (tgt := 90) C d_Md_node_77 (by decide) ?_
                  refine xr_put (k := 29) C xf_Md_86 hw29 (by decide) rfl rfl (Nat.le_of_ble_eq_true rfl) d_Md_node_90 ?_
                  refine xr_aload_n C 0 d_Md_node_93 rfl rfl ?_
                  refine xr_get (k := 29) C xg_Md_86 rfl (by decide) rfl d_Md_node_94 ?_
                  refine xz_if_eq (tgt := 104) C d_Md_node_97 (by decide) (by omega) (fun c97 => by exfalso; omega) (fun c97 => ?_)
                  refine xr_iconst C d_Md_node_100 ?_
                  refine xr_goto (tgt := 112) C d_Md_node_101 (by decide) ?_
                  exact xr_iret C E ⟨rfl, rfl, _, rfl, by first | exact Or.inl ⟨by omega, by omega, S', z, hz, hy9, hMT', fun k hk => (hfr k hk).trans (va_ne (by omega))⟩ | exact Or.inr (Or.inl ⟨by omega, rfl, rfl⟩) | exact Or.inr (Or.inr ⟨by omega, by omega, rfl, rfl⟩)⟩ (by decide) (by decide) d_Md_node_112
                · skip
                  refine xr_goto (tgt := 63) C d_Md_node_55 (by decide) ?_
                  refine xr_iconst C d_Md_node_63 ?_
                  refine xr_goto (tgt := 68) C d_Md_node_64 (by decide) ?_
                  refine xr_istore C d_Md_node_68 (by decide) ?_
                  refine xr_aload_n C 0 d_Md_node_70 rfl rfl ?_
                  refine xr_iload C d_Md_node_71 rfl ?_
                  refine xz_if_ne (tgt := 80) C d_Md_node_73 (by decide) (by omega) (fun c73 => by exfalso; omega) (fun c73 => ?_)
                  refine xr_iconst C d_Md_node_76 ?_
                  refine xr_goto (tgt := 90) C d_Md_node_77 (by decide) ?_
                  refine xr_put (k := 29) C xf_Md_86 hw29 (by decide) rfl rfl (Nat.le_of_ble_eq_true rfl) d_Md_node_90 ?_
                  refine xr_aload_n C 0 d_Md_node_93 rfl rfl ?_
                  refine xr_get (k := 29) C xg_Md_86 rfl (by decide) rfl d_Md_node_94 ?_
                  refine xz_if_eq (tgt := 104) C d_Md_node_97 (by decide) (by omega) (fun c97 => by exfalso; omega) (fun c97 => ?_)
                  refine xr_iconst C d_Md_node_100 ?_
                  refine xr_goto (tgt := 112) C d_Md_node_101 (by decide) ?_
                  exact xr_iret C E ⟨rfl, rfl, _, rfl, by first | exact Or.inl ⟨by omega, by omega, S', z, hz, hy9, hMT', fun k hk => (hfr k hk).trans (va_ne (by omega))⟩ | exact Or.inr (Or.inl ⟨by omega, rfl, rfl⟩) | exact Or.inr (Or.inr ⟨by omega, by omega, rfl, rfl⟩)⟩ (by decide) (by decide) d_Md_node_112
        · skip
          refine xr_iconst C d_Md_node_27 ?_
          refine xr_goto (tgt := 32) C d_Md_node_28 (by decide) ?_
          refine xr_istore C d_Md_node_32 (by decide) ?_
          refine xr_iload_n C 1 d_Md_node_34 rfl rfl ?_
          refine xz_if_lt (tgt := 67) C d_Md_node_35 (by decide) (by omega) (fun c35 => ?_) (fun c35 => ?_)
          · skip
            refine xr_iconst C d_Md_node_67 ?_
            refine xr_istore C d_Md_node_68 (by decide) ?_
            refine xr_aload_n C 0 d_Md_node_70 rfl rfl ?_
            refine xr_iload C d_Md_node_71 rfl ?_
            refine xz_if_ne (tgt := 80) C d_Md_node_73 (by decide) (by omega) (fun c73 => ?_) (fun c73 => by exfalso; omega)
            refine xr_iload C d_Md_node_80 rfl ?_
            refine xz_if_ne (tgt := 89) C d_Md_node_82 (by decide) (by omega) (fun c82 => by exfalso; omega) (fun c82 => ?_)
            refine xr_iconst C d_Md_node_85 ?_
            refine xr_goto (tgt := 90) C d_Md_node_86 (by decide) ?_
            refine xr_put (k := 29) C xf_Md_86 hw29 (by decide) rfl rfl (Nat.le_of_ble_eq_true rfl) d_Md_node_90 ?_
            refine xr_aload_n C 0 d_Md_node_93 rfl rfl ?_
            refine xr_get (k := 29) C xg_Md_86 rfl (by decide) rfl d_Md_node_94 ?_
            refine xz_if_eq (tgt := 104) C d_Md_node_97 (by decide) (by omega) (fun c97 => by exfalso; omega) (fun c97 => ?_)
            refine xr_iconst C d_Md_node_100 ?_
            refine xr_goto (tgt := 112) C d_Md_node_101 (by decide) ?_
            exact xr_iret C E ⟨rfl, rfl, _, rfl, by first | exact Or.inl ⟨by omega, by omega, S', z, hz, hy9, hMT', fun k hk => (hfr k hk).trans (va_ne (by omega))⟩ | exact Or.inr (Or.inl ⟨by omega, rfl, rfl⟩) | exact Or.inr (Or.inr ⟨by omega, by omega, rfl, rfl⟩)⟩ (by decide) (by decide) d_Md_node_112
          · skip
            refine xr_iload_n C 1 d_Md_node_38 rfl rfl ?_
            refine xr_bipush C d_Md_node_39 (by decide) ?_
            refine xz_icmp_gt (tgt := 67) C d_Md_node_41 (by decide) (by omega) (by omega) (fun c41 => ?_) (fun c41 => ?_)
            · skip
              refine xr_iconst C d_Md_node_67 ?_
              refine xr_istore C d_Md_node_68 (by decide) ?_
              refine xr_aload_n C 0 d_Md_node_70 rfl rfl ?_
              refine xr_iload C d_Md_node_71 rfl ?_
              refine xz_if_ne (tgt := 80) C d_Md_node_73 (by decide) (by omega) (fun c73 => ?_) (fun c73 => by exfalso; omega)
              refine xr_iload C d_Md_node_80 rfl ?_
              refine xz_if_ne (tgt := 89) C d_Md_node_82 (by decide) (by omega) (fun c82 => by exfalso; omega) (fun c82 => ?_)
              refine xr_iconst C d_Md_node_85 ?_
              refine xr_goto (tgt := 90) C d_Md_node_86 (by decide) ?_
              refine xr_put (k := 29) C xf_Md_86 hw29 (by decide) rfl rfl (Nat.le_of_ble_eq_true rfl) d_Md_node_90 ?_
              refine xr_aload_n C 0 d_Md_node_93 rfl rfl ?_
              refine xr_get (k := 29) C xg_Md_86 rfl (by decide) rfl d_Md_node_94 ?_
              refine xz_if_eq (tgt := 104) C d_Md_node_97 (by decide) (by omega) (fun c97 => by exfalso; omega) (fun c97 => ?_)
              refine xr_iconst C d_Md_node_100 ?_
              refine xr_goto (tgt := 112) C d_Md_node_101 (by decide) ?_
              exact xr_iret C E ⟨rfl, rfl, _, rfl, by first | exact Or.inl ⟨by omega, by omega, S', z, hz, hy9, hMT', fun k hk => (hfr k hk).trans (va_ne (by omega))⟩ | exact Or.inr (Or.inl ⟨by omega, rfl, rfl⟩) | exact Or.inr (Or.inr ⟨by omega, by omega, rfl, rfl⟩)⟩ (by decide) (by decide) d_Md_node_112
            · skip
              refine xr_iload_n C 1 d_Md_node_44 rfl rfl ?_
              refine xr_bipush C d_Md_node_45 (by decide) ?_
              refine xz_icmp_ge (tgt := 58) C d_Md_node_47 (by decide) (by omega) (by omega) (fun c47 => ?_) (fun c47 => ?_)
              · skip
                refine xr_iload_n C 3 d_Md_node_58 rfl rfl ?_
                refine xr_iconst C d_Md_node_59 ?_
                refine xz_icmp_eq (tgt := 67) C d_Md_node_60 (by decide) (by omega) (by omega) (fun c60 => ?_) (fun c60 => ?_)
                · skip
                  refine xr_iconst C d_Md_node_67 ?_
                  refine xr_istore C d_Md_node_68 (by decide) ?_
                  refine xr_aload_n C 0 d_Md_node_70 rfl rfl ?_
                  refine xr_iload C d_Md_node_71 rfl ?_
                  refine xz_if_ne (tgt := 80) C d_Md_node_73 (by decide) (by omega) (fun c73 => ?_) (fun c73 => by exfalso; omega)
                  refine xr_iload C d_Md_node_80 rfl ?_
                  refine xz_if_ne (tgt := 89) C d_Md_node_82 (by decide) (by omega) (fun c82 => by exfalso; omega) (fun c82 => ?_)
                  refine xr_iconst C d_Md_node_85 ?_
                  refine xr_goto (tgt := 90) C d_Md_node_86 (by decide) ?_
                  refine xr_put (k := 29) C xf_Md_86 hw29 (by decide) rfl rfl (Nat.le_of_ble_eq_true rfl) d_Md_node_90 ?_
                  refine xr_aload_n C 0 d_Md_node_93 rfl rfl ?_
                  refine xr_get (k := 29) C xg_Md_86 rfl (by decide) rfl d_Md_node_94 ?_
                  refine xz_if_eq (tgt := 104) C d_Md_node_97 (by decide) (by omega) (fun c97 => by exfalso; omega) (fun c97 => ?_)
                  refine xr_iconst C d_Md_node_100 ?_
                  refine xr_goto (tgt := 112) C d_Md_node_101 (by decide) ?_
                  exact xr_iret C E ⟨rfl, rfl, _, rfl, by first | exact Or.inl ⟨by omega, by omega, S', z, hz, hy9, hMT', fun k hk => (hfr k hk).trans (va_ne (by omega))⟩ | exact Or.inr (Or.inl ⟨by omega, rfl, rfl⟩) | exact Or.inr (Or.inr ⟨by omega, by omega, rfl, rfl⟩)⟩ (by decide) (by decide) d_Md_node_112
                · skip
                  refine xr_iconst C d_Md_node_63 ?_
                  refine xr_goto (tgt := 68) C d_Md_node_64 (by decide) ?_
                  refine xr_istore C d_Md_node_68 (by decide) ?_
                  refine xr_aload_n C 0 d_Md_node_70 rfl rfl ?_
                  refine xr_iload C d_Md_node_71 rfl ?_
                  refine xz_if_ne (tgt := 80) C d_Md_node_73 (by decide) (by omega) (fun c73 => ?_) (fun c73 => by exfalso; omega)
                  refine xr_iload C d_Md_node_80 rfl ?_
                  refine xz_if_ne (tgt := 89) C d_Md_node_82 (by decide) (by omega) (fun c82 => ?_) (fun c82 => by exfalso; omega)
                  refine xr_iconst C d_Md_node_89 ?_
                  refine xr_put (k := 29) C xf_Md_86 hw29 (by decide) rfl rfl (Nat.le_of_ble_eq_true rfl) d_Md_node_90 ?_
                  refine xr_aload_n C 0 d_Md_node_93 rfl rfl ?_
                  refine xr_get (k := 29) C xg_Md_86 rfl (by decide) rfl d_Md_node_94 ?_
                  refine xz_if_eq (tgt := 104) C d_Md_node_97 (by decide) (by omega) (fun c97 => ?_) (fun c97 => by exfalso; omega)
                  refine xr_aload_n C 0 d_Md_node_104 rfl rfl ?_
                  refine xr_iload_n C 1 d_Md_node_105 rfl rfl ?_
                  refine xr_iload_n C 2 d_Md_node_106 rfl rfl ?_
                  refine xr_iload_n C 3 d_Md_node_107 rfl rfl ?_
                  refine xr_iconst C d_Md_node_108 ?_
                  refine xr_callV (k9 := 29) C (m_Md_ask (w := va_up w 29 (mdO ad (sN S : Int) ru ro sp nr ns 0 se fa so)) (S := S) (th := 0) (s := h) (a := x) (b := y) (e := 3) ⟨sg, fs, sn, wt, pl, dp, ho, rfl, hw30, hw31, hw32, hw33, hw34, hw35, hw36, hA⟩ hT (by unfold shp; omega)) xm_Md_105 x2_Md_ask rfl (by decide) rfl (by decide) (by decide) (Nat.le_of_ble_eq_true rfl) rfl d_Md_node_109 (fun En n9 ad9 w9 hx9 => hx9.elim) (fun v n9 ad9 w9 hp => ?_)
                  obtain ⟨rfl, rfl, v, rfl, S', z, hz, hy9, hMT', hfr⟩ := hp
                  show XW _ _ _ _ _ _ 112 _ (_ :: _)
                  exact xr_iret C E ⟨rfl, rfl, _, rfl, by first | exact Or.inl ⟨by omega, by omega, S', z, hz, hy9, hMT', fun k hk => (hfr k hk).trans (va_ne (by omega))⟩ | exact Or.inr (Or.inl ⟨by omega, rfl, rfl⟩) | exact Or.inr (Or.inr ⟨by omega, by omega, rfl, rfl⟩)⟩ (by decide) (by decide) d_Md_node_112
              · skip
                refine xr_iload_n C 3 d_Md_node_50 rfl rfl ?_
                refine xr_iconst C d_Md_node_51 ?_
                refine xz_icmp_ne (tgt := 67) C d_Md_node_52 (by decide) (by omega) (by omega) (fun c52 => ?_) (fun c52 => ?_)
                · skip
                  refine xr_iconst C d_Md_node_67 ?_
                  refine xr_istore C d_Md_node_68 (by decide) ?_
                  refine xr_aload_n C 0 d_Md_node_70 rfl rfl ?_
                  refine xr_iload C d_Md_node_71 rfl ?_
                  refine xz_if_ne (tgt := 80) C d_Md_node_73 (by decide) (by omega) (fun c73 => ?_) (fun c73 => by exfalso; omega)
                  refine xr_iload C d_Md_node_80 rfl ?_
                  refine xz_if_ne (tgt := 89) C d_Md_node_82 (by decide) (by omega) (fun c82 => by exfalso; omega) (fun c82 => ?_)
                  refine xr_iconst C d_Md_node_85 ?_
                  refine xr_goto (tgt := 90) C d_Md_node_86 (by decide) ?_
                  refine xr_put (k := 29) C xf_Md_86 hw29 (by decide) rfl rfl (Nat.le_of_ble_eq_true rfl) d_Md_node_90 ?_
                  refine xr_aload_n C 0 d_Md_node_93 rfl rfl ?_
                  refine xr_get (k := 29) C xg_Md_86 rfl (by decide) rfl d_Md_node_94 ?_
                  refine xz_if_eq (tgt := 104) C d_Md_node_97 (by decide) (by omega) (fun c97 => by exfalso; omega) (fun c97 => ?_)
                  refine xr_iconst C d_Md_node_100 ?_
                  refine xr_goto (tgt := 112) C d_Md_node_101 (by decide) ?_
                  exact xr_iret C E ⟨rfl, rfl, _, rfl, by first | exact Or.inl ⟨by omega, by omega, S', z, hz, hy9, hMT', fun k hk => (hfr k hk).trans (va_ne (by omega))⟩ | exact Or.inr (Or.inl ⟨by omega, rfl, rfl⟩) | exact Or.inr (Or.inr ⟨by omega, by omega, rfl, rfl⟩)⟩ (by decide) (by decide) d_Md_node_112
                · skip
                  refine xr_goto (tgt := 63) C d_Md_node_55 (by decide) ?_
                  refine xr_iconst C d_Md_node_63 ?_
                  refine xr_goto (tgt := 68) C d_Md_node_64 (by decide) ?_
                  refine xr_istore C d_Md_node_68 (by decide) ?_
                  refine xr_aload_n C 0 d_Md_node_70 rfl rfl ?_
                  refine xr_iload C d_Md_node_71 rfl ?_
                  refine xz_if_ne (tgt := 80) C d_Md_node_73 (by decide) (by omega) (fun c73 => ?_) (fun c73 => by exfalso; omega)
                  refine xr_iload C d_Md_node_80 rfl ?_
                  refine xz_if_ne (tgt := 89) C d_Md_node_82 (by decide) (by omega) (fun c82 => ?_) (fun c82 => by exfalso; omega)
                  refine xr_iconst C d_Md_node_89 ?_
                  refine xr_put (k := 29) C xf_Md_86 hw29 (by decide) rfl rfl (Nat.le_of_ble_eq_true rfl) d_Md_node_90 ?_
                  refine xr_aload_n C 0 d_Md_node_93 rfl rfl ?_
                  refine xr_get (k := 29) C xg_Md_86 rfl (by decide) rfl d_Md_node_94 ?_
                  refine xz_if_eq (tgt := 104) C d_Md_node_97 (by decide) (by omega) (fun c97 => ?_) (fun c97 => by exfalso; omega)
                  refine xr_aload_n C 0 d_Md_node_104 rfl rfl ?_
                  refine xr_iload_n C 1 d_Md_node_105 rfl rfl ?_
                  refine xr_iload_n C 2 d_Md_node_106 rfl rfl ?_
                  refine xr_iload_n C 3 d_Md_node_107 rfl rfl ?_
                  refine xr_iconst C d_Md_node_108 ?_
                  refine xr_callV (k9 := 29) C (m_Md_ask (w := va_up w 29 (mdO ad (sN S : Int) ru ro sp nr ns 0 se fa so)) (S := S) (th := 0) (s := h) (a := x) (b := y) (e := 3) ⟨sg, fs, sn, wt, pl, dp, ho, rfl, hw30, hw31, hw32, hw33, hw34, hw35, hw36, hA⟩ hT (by unfold shp; omega)) xm_Md_105 x2_Md_ask rfl (by decide) rfl (by decide) (by decide) (Nat.le_of_ble_eq_true rfl) rfl d_Md_node_109 (fun En n9 ad9 w9 hx9 => hx9.elim) (fun v n9 ad9 w9 hp => ?_)
                  obtain ⟨rfl, rfl, v, rfl, S', z, hz, hy9, hMT', hfr⟩ := hp
                  show XW _ _ _ _ _ _ 112 _ (_ :: _)
                  exact xr_iret C E ⟨rfl, rfl, _, rfl, by first | exact Or.inl ⟨by omega, by omega, S', z, hz, hy9, hMT', fun k hk => (hfr k hk).trans (va_ne (by omega))⟩ | exact Or.inr (Or.inl ⟨by omega, rfl, rfl⟩) | exact Or.inr (Or.inr ⟨by omega, by omega, rfl, rfl⟩)⟩ (by decide) (by decide) d_Md_node_112
set_option maxHeartbeats 4000000 in
set_option maxRecDepth 100000 in
theorem m_Md_domain {L : Launch} {D : va_G} {cA : Nat → ClassId} {base : Nat} {ad : Nat → Nat} {w : Nat → va_E} {tr ru ro sp nr ns th : Int} {se fa so : Bool} (hw29 : w 29 = mdO ad tr ru ro sp nr ns th se fa so) {f co : Nat → Int} (hw42 : w 42 = xIA (cA 0) 800 f) (hw39 : w 39 = xIA (cA 0) 16 co) (hro : 0 ≤ ro ∧ ro ≤ 200) (hco : ∀ j, -1 ≤ co j ∧ co j < 10) (hf : ∀ i : Nat, (i : Int) < ro → 0 ≤ f (i * 4) ∧ f (i * 4) < 16) : XM L D cA base y_Md_domain c_Md_domain 3 (some .int) (xrm 0 0 0) [.ref (ad 29)] 56 ad w (fun v n' ad' w' => 56 = n' ∧ ad = ad' ∧ v = some (.int (domI f co ro.toNat)) ∧ w' = (va_up w 29 (mdO ad tr ru ro sp nr ns 0 se fa so))) xF := by
  refine xm_of (by decide +kernel) (by simp [Value.category]) (Nat.le_of_ble_eq_true rfl) (fun G C E _ => ?_)
  have lp : ∀ (k i : Nat) (lv : Nat → Option Value), ro + 1 ≤ (i : Int) + k → (i : Int) ≤ ro → lv 0 = some (.ref (ad 29)) → lv 1 = some (.int (domI f co i)) → lv 2 = some (.int (zI (i : Int))) → XW G 56 ad (va_up w 29 (mdO ad tr ru ro sp nr ns 0 se fa so)) 0 0 9 lv [] := by
    intro k
    induction k with
    | zero => intro i lv h1 h2; exact absurd h1 (by omega)
    | succ k ih =>
      intro i lv h1 h2 hl0 hl1 hl2
      refine xr_iload_n C 2 d_Md_domain_9 rfl hl2 ?_
      refine xr_aload_n C 0 d_Md_domain_10 rfl hl0 ?_
      refine xr_get (k := 29) C xg_Md_170 rfl (by decide) rfl d_Md_domain_11 ?_
      refine xz_icmp_ge (tgt := 58) C d_Md_domain_14 (by decide) (by omega) (by omega) (fun c14 => ?_) (fun c14 => ?_)
      · skip
        refine xr_iload_n C 1 d_Md_domain_58 rfl hl1 ?_
        have hi9 : (i : Int) = ro := by omega
        exact xr_iret C E ⟨rfl, rfl, by rw [show ro.toNat = i by omega], rfl⟩ (by decide) (by decide) d_Md_domain_59
      · skip
        refine xr_aload_n C 0 d_Md_domain_17 rfl hl0 ?_
        refine xr_get (k := 29) C xg_Md_37 rfl (by decide) rfl d_Md_domain_18 ?_
        refine xr_aload_n C 0 d_Md_domain_21 rfl hl0 ?_
        refine xr_get (k := 29) C xg_Md_47 rfl (by decide) rfl d_Md_domain_22 ?_
        refine xr_iconst C d_Md_domain_25 ?_
        refine xr_iload_n C 2 d_Md_domain_26 rfl hl2 ?_
        refine xz_imul C d_Md_domain_27 ?_
        have hfi := hf i (by omega)
        have hcc := hco (f (i * 4)).toNat
        refine xj_iald (k := 42) C (i * 4) (by omega) hw42 (by decide) (by omega) (by decide) d_Md_domain_28 ?_
        refine xj_iald (k := 39) C ((f (i * 4)).toNat) (by omega) hw39 (by decide) (by omega) (by decide) d_Md_domain_29 ?_
        refine xr_iconst C d_Md_domain_30 ?_
        refine xz_icmp_eq (tgt := 52) C d_Md_domain_31 (by decide) (by omega) (by omega) (fun c31 => ?_) (fun c31 => ?_)
        · skip
          refine xr_iinc C d_Md_domain_52 (by decide) hl2 ?_
          refine xr_goto (tgt := 9) C d_Md_domain_55 (by decide) ?_
          exact ih (i + 1) _ (by omega) (by omega) hl0 (by show _ = some (Value.int (domI f co (i + 1))); simp only [domI]; first | (rw [if_pos (by omega)]; exact hl1) | (rw [if_neg (by omega)]; rfl)) rfl
        · skip
          refine xr_iload_n C 1 d_Md_domain_34 rfl hl1 ?_
          refine xr_iconst C d_Md_domain_35 ?_
          refine xr_aload_n C 0 d_Md_domain_36 rfl hl0 ?_
          refine xr_get (k := 29) C xg_Md_37 rfl (by decide) rfl d_Md_domain_37 ?_
          refine xr_aload_n C 0 d_Md_domain_40 rfl hl0 ?_
          refine xr_get (k := 29) C xg_Md_47 rfl (by decide) rfl d_Md_domain_41 ?_
          refine xr_iconst C d_Md_domain_44 ?_
          refine xr_iload_n C 2 d_Md_domain_45 rfl hl2 ?_
          refine xz_imul C d_Md_domain_46 ?_
          refine xj_iald (k := 42) C (i * 4) (by omega) hw42 (by decide) (by omega) (by decide) d_Md_domain_47 ?_
          refine xj_iald (k := 39) C ((f (i * 4)).toNat) (by omega) hw39 (by decide) (by omega) (by decide) d_Md_domain_48 ?_
          refine xr_ishl C d_Md_domain_49 ?_
          refine xr_ior C d_Md_domain_50 ?_
          refine xr_istore_n C 1 d_Md_domain_51 rfl (by decide) ?_
          refine xr_iinc C d_Md_domain_52 (by decide) hl2 ?_
          refine xr_goto (tgt := 9) C d_Md_domain_55 (by decide) ?_
          exact ih (i + 1) _ (by omega) (by omega) hl0 (by show _ = some (Value.int (domI f co (i + 1))); simp only [domI]; first | (rw [if_pos (by omega)]; exact hl1) | (rw [if_neg (by omega)]; rfl)) rfl
  refine xr_aload_n C 0 d_Md_domain_0 rfl rfl ?_
  refine xr_iconst C d_Md_domain_1 ?_
  refine xr_put (k := 29) C xf_Md_86 hw29 (by decide) rfl rfl (Nat.le_of_ble_eq_true rfl) d_Md_domain_2 ?_
  refine xr_iconst C d_Md_domain_5 ?_
  refine xr_istore_n C 1 d_Md_domain_6 rfl (by decide) ?_
  refine xr_iconst C d_Md_domain_7 ?_
  refine xr_istore_n C 2 d_Md_domain_8 rfl (by decide) ?_
  exact lp (ro.toNat + 1) 0 _ (by omega) (by omega) rfl rfl rfl
