/-- the reference while it builds -/
def BS (ad : Nat → Nat) (cA : Nat → ClassId) (w : Nat → va_E) (S : xS) (γ : Nat → Int) (ru ro sp nr ns th : Int) (se so : Bool) (S1 : xS) (fa : Bool) (w1 : Nat → va_E) (td md : Nat → Int) : Prop := Tb S1 ∧ xt S S1 ∧ MT ad cA w1 S1 ru ro sp nr ns th se fa so ∧ w1 47 = xIA (cA 0) 1100 td ∧ w1 49 = xIA (cA 0) 1100 md ∧ w1 48 = xIA (cA 0) 6 γ ∧ ∀ k, (k < 29 ∨ 36 < k) → k ≠ 47 → k ≠ 49 → w1 k = w k
set_option maxHeartbeats 4000000 in
set_option maxRecDepth 100000 in
theorem m_Md_build {L : Launch} {D : va_G} {cA : Nat → ClassId} {base : Nat} {ad : Nat → Nat} {w : Nat → va_E} {S : xS} {ru ro sp nr ns th : Int} {se so : Bool} (hMT : MT ad cA w S ru ro sp nr ns th se false so) (hT : Tb S) {r : Nat} (hr : r < sN S) {β γ td0 md0 : Nat → Int} (hγ : ∀ h, h < 6 → γ h = β h) (hβ : ∀ h, h < 6 → 0 < cnt S r h → 0 ≤ β h ∧ β h < sN S) (hw48 : w 48 = xIA (cA 0) 6 γ) (hw47 : w 47 = xIA (cA 0) 1100 td0) (hw49 : w 49 = xIA (cA 0) 1100 md0) : XM L D cA base y_Md_build c_Md_build 7 (some .int) (xrm 2 0 0) [.ref (ad 29), .int (zI (r : Int))] 56 ad w (xRet 56 ad (fun z w' => ∃ S' : xS, (z, S') = bld S β r S ∧ MT ad cA w' S' ru ro sp nr ns th se (decide (z < 0)) so ∧ (∃ q, w' 47 = xIA (cA 0) 1100 q) ∧ (∃ q, w' 49 = xIA (cA 0) 1100 q) ∧ ∀ k, (k < 29 ∨ 36 < k) → k ≠ 47 → k ≠ 49 → w' k = w k)) xF := by
  refine xm_of (by decide +kernel) (by simp [Value.category]) (Nat.le_of_ble_eq_true rfl) (fun G C E _ => ?_)
  have hN := hT.1
  have hw29 : ∃ tr, w 29 = mdO ad tr ru ro sp nr ns th se false so := by obtain ⟨sg, fs, sn, wt, pl, dp, ho, hw29, hw30, hw31, hw32, hw33, hw34, hw35, hw36, hA⟩ := id hMT; exact ⟨_, hw29⟩
  obtain ⟨tr9, hw29⟩ := hw29
  have Cb : ∀ (p : Nat), p < sN S → sSg S p < 100 → ∀ (S1 : xS) (h d : Nat) (w1 : Nat → va_E) (td md : Nat → Int) (a b : Int) (lv : Nat → Option Value), BS ad cA w S γ ru ro sp nr ns th se so S1 false w1 td md → td h = -1 - (p : Int) → h < 1100 → d + 1 < 1100 → md d = a → (6 ≤ sSg S p → md (d + 1) = b) → (sSg S p < 6 → b = -1) → shp (sSg S p) a b (sN S1) → lv 0 = some (.ref (ad 29)) → lv 2 = some (.int (zI ((h + 1 : Nat) : Int))) → lv 3 = some (.int (zI ((if 6 ≤ sSg S p then d + 2 else d + 1 : Nat) : Int))) →
    (∀ (S2 : xS) (z : Int) (w2 : Nat → va_E) (md2 : Nat → Int) (lv2 : Nat → Option Value), (z, S2) = mkT S1 (sSg S p) a b → 0 ≤ z → BS ad cA w S γ ru ro sp nr ns th se so S2 false w2 td md2 → md2 d = z → (∀ i, i < d → md2 i = md i) → lv2 0 = some (.ref (ad 29)) → lv2 2 = some (.int (zI (h : Int))) → lv2 3 = some (.int (zI ((d + 1 : Nat) : Int))) → XW G 56 ad w2 0 0 11 lv2 []) →
    (∀ (S2 : xS) (w2 : Nat → va_E) (md2 : Nat → Int) (lv2 : Nat → Option Value), (-1, S2) = mkT S1 (sSg S p) a b → BS ad cA w S γ ru ro sp nr ns th se so S2 true w2 td md2 → lv2 0 = some (.ref (ad 29)) → lv2 2 = some (.int (zI (h : Int))) → XW G 56 ad w2 0 0 11 lv2 []) → XW G 56 ad w1 0 0 11 lv [] := by
    intro p hp hnp S1 h d w1 td md a b lv hB htd hh hd hma hmb hb1 hsh hq0 hq2 hq3 Ks Kf
    obtain ⟨hT1, hx1, hMT1, hw47, hw49, hw48, hfr⟩ := id hB
    obtain ⟨sg, fs, sn, wt, pl, dp, ho, hw29, hw30, hw31, hw32, hw33, hw34, hw35, hw36, hA⟩ := id hMT1
    have hNN := hx1.1
    have hN1 := hT1.1
    obtain ⟨q1, q2, q3, -⟩ := hA.1 p (by omega)
    obtain ⟨t1, t2, t3, -⟩ := hx1.2 p hp
    rw [t1] at q1
    rw [t2] at q2
    rw [t3] at q3
    have r1 := (hA.2 p).1
    have hab := shp_a hsh
    have sp9 := (hT.2.1 p hp).1
    unfold shp at sp9
    by_cases h6 : 6 ≤ sSg S p
    · have hq3 : lv 3 = some (.int (zI ((d + 2 : Nat) : Int))) := by rw [hq3, if_pos h6]
      refine xr_iload_n C 2 d_Md_build_11 rfl hq2 ?_
      refine xz_if_le (tgt := 222) C d_Md_build_12 (by decide) (by omega) (fun c12 => by exfalso; omega) (fun c12 => ?_)
      refine xr_aload_n C 0 d_Md_build_15 rfl hq0 ?_
      refine xr_get (k := 29) C xg_Md_97 hw29 (by decide) rfl d_Md_build_16 ?_
      refine xb_if_ne (tgt := 222) C d_Md_build_19 (by decide)  (fun c19 => by exfalso; exact absurd c19 (by decide)) (fun c19 => ?_)
      refine xr_iinc C d_Md_build_22 (by decide) hq2 ?_
      refine xr_aload_n C 0 d_Md_build_25 rfl hq0 ?_
      refine xr_get (k := 29) C xg_Md_62 hw29 (by decide) rfl d_Md_build_26 ?_
      refine xr_iload_n C 2 d_Md_build_29 rfl rfl ?_
      refine xj_iald (k := 47) C (h) (by omega) hw47 (by decide) (by omega) (by decide) d_Md_build_30 ?_
      refine xr_eqz (y := -1 - (p : Int)) htd ?_
      refine xr_istore C d_Md_build_31 (by decide) ?_
      refine xr_iload C d_Md_build_33 rfl ?_
      refine xz_if_ge (tgt := 101) C d_Md_build_35 (by decide) (by omega) (fun c35 => by exfalso; omega) (fun c35 => ?_)
      refine xr_aload_n C 0 d_Md_build_38 rfl hq0 ?_
      refine xr_get (k := 29) C xg_Md_7 hw29 (by decide) rfl d_Md_build_39 ?_
      refine xr_iconst C d_Md_build_42 ?_
      refine xr_iload C d_Md_build_43 rfl ?_
      refine xz_isub C d_Md_build_45 ?_
      refine xj_iald (k := 30) C (p) (by omega) hw30 (by decide) (by omega) (by decide) d_Md_build_46 ?_
      refine xr_eqz (y := sSg S p) q1 ?_
      refine xr_istore C d_Md_build_47 (by decide) ?_
      refine xr_iconst C d_Md_build_49 ?_
      refine xr_istore C d_Md_build_50 (by decide) ?_
      refine xr_iload C d_Md_build_52 rfl ?_
      refine xr_callS C (m_Md_parts (x := sSg S p) (by omega)) xm_Md_93 x2_Md_parts (by decide) (by decide) (Nat.le_of_ble_eq_true rfl) rfl d_Md_build_54 (fun En n9 ad9 w9 hx9 => hx9.elim) (fun v n9 ad9 w9 hp => ?_)
      obtain ⟨rfl, rfl, rfl, rfl⟩ := hp
      show XW _ _ _ _ _ _ 57 _ (_ :: _)
      refine xr_eqz (y := 2) (by unfold prt; rw [if_neg (by omega), if_neg (by omega)]) ?_
      refine xr_iconst C d_Md_build_57 ?_
      refine xz_icmp_ne (tgt := 72) C d_Md_build_58 (by decide) (by omega) (by omega) (fun c58 => by exfalso; omega) (fun c58 => ?_)
      refine xr_iinc C d_Md_build_61 (by decide) hq3 ?_
      refine xr_aload_n C 0 d_Md_build_64 rfl hq0 ?_
      refine xr_get (k := 29) C xg_Md_68 hw29 (by decide) rfl d_Md_build_65 ?_
      refine xr_iload_n C 3 d_Md_build_68 rfl rfl ?_
      refine xj_iald (k := 49) C (d + 1) (by omega) hw49 (by decide) (by omega) (by decide) d_Md_build_69 ?_
      refine xr_eqz (y := b) (hmb h6) ?_
      refine xr_istore C d_Md_build_70 (by decide) ?_
      refine xr_iinc C d_Md_build_72 (by decide) rfl ?_
      refine xr_aload_n C 0 d_Md_build_75 rfl hq0 ?_
      refine xr_get (k := 29) C xg_Md_68 hw29 (by decide) rfl d_Md_build_76 ?_
      refine xr_iload_n C 3 d_Md_build_79 rfl rfl ?_
      refine xr_aload_n C 0 d_Md_build_80 rfl hq0 ?_
      refine xr_iload C d_Md_build_81 rfl ?_
      refine xr_aload_n C 0 d_Md_build_83 rfl hq0 ?_
      refine xr_get (k := 29) C xg_Md_68 hw29 (by decide) rfl d_Md_build_84 ?_
      refine xr_iload_n C 3 d_Md_build_87 rfl rfl ?_
      refine xj_iald (k := 49) C (d) (by omega) hw49 (by decide) (by omega) (by decide) d_Md_build_88 ?_
      refine xr_eqz (y := a) hma ?_
      refine xr_iload C d_Md_build_89 rfl ?_
      refine xr_callV (k9 := 29) C (m_Md_tree (s := sSg S p) (a := a) (b := b) hMT1 hT1 hsh) xm_Md_101 x2_Md_tree hw29 (by decide) rfl (by decide) (by decide) (Nat.le_of_ble_eq_true rfl) rfl d_Md_build_91 (fun En n9 ad9 w9 hx9 => hx9.elim) (fun v n9 ad9 w9 hp => ?_)
      obtain ⟨rfl, rfl, z, rfl, S2, e2, hMT2, hfr2⟩ := hp
      obtain ⟨g1, g2, g3, -⟩ := mkT_pos hT1 hsh e2
      have hw49 := (hfr2 49 (by omega)).trans hw49
      show XW _ _ _ _ _ _ 94 _ (_ :: _)
      refine xj_iast (k := 49) C (d) (by omega) hw49 (by decide) (by omega) (by decide) d_Md_build_94 ?_
      refine xr_iinc C d_Md_build_95 (by decide) rfl ?_
      refine xr_goto (tgt := 219) C d_Md_build_98 (by decide) ?_
      refine xr_goto (tgt := 11) C d_Md_build_219 (by decide) ?_
      rw [Bool.false_or] at hMT2
      have hB2 : BS ad cA w S γ ru ro sp nr ns th se so S2 (decide (z < 0)) _ td (va_up md d z) := ⟨g1, xt_trans hx1 (mkT_xt e2), mt_fr hMT2 (fun k a b => va_ne (by omega)), (va_ne (by decide)).trans ((hfr2 47 (by omega)).trans hw47), va_eq, (va_ne (by decide)).trans ((hfr2 48 (by omega)).trans hw48), fun k a b c => (va_ne c).trans ((hfr2 k a).trans (hfr k a b c))⟩
      by_cases hz : z < 0
      · rw [decide_eq_true hz] at hB2
        exact Kf S2 _ _ _ (by rw [← e2, show z = -1 by omega]) hB2 hq0 (by show some (Value.int (zI (((h + 1 : Nat) : Int) + -1))) = _; rw [show (((h + 1 : Nat) : Int) + -1) = (h : Int) by omega])
      · rw [decide_eq_false hz] at hB2
        exact Ks S2 z _ _ _ e2 (by omega) hB2 va_eq (fun i hi => va_ne (by omega)) hq0 (by show some (Value.int (zI (((h + 1 : Nat) : Int) + -1))) = _; rw [show (((h + 1 : Nat) : Int) + -1) = (h : Int) by omega]) (by show some (Value.int (zI (((d + 2 : Nat) : Int) + -1 + -1 + 1))) = _; rw [show ((d + 2 : Nat) : Int) + -1 + -1 + 1 = ((d + 1 : Nat) : Int) by omega])
    · have hq3 : lv 3 = some (.int (zI ((d + 1 : Nat) : Int))) := by rw [hq3, if_neg h6]
      refine xr_iload_n C 2 d_Md_build_11 rfl hq2 ?_
      refine xz_if_le (tgt := 222) C d_Md_build_12 (by decide) (by omega) (fun c12 => by exfalso; omega) (fun c12 => ?_)
      refine xr_aload_n C 0 d_Md_build_15 rfl hq0 ?_
      refine xr_get (k := 29) C xg_Md_97 hw29 (by decide) rfl d_Md_build_16 ?_
      refine xb_if_ne (tgt := 222) C d_Md_build_19 (by decide)  (fun c19 => by exfalso; exact absurd c19 (by decide)) (fun c19 => ?_)
      refine xr_iinc C d_Md_build_22 (by decide) hq2 ?_
      refine xr_aload_n C 0 d_Md_build_25 rfl hq0 ?_
      refine xr_get (k := 29) C xg_Md_62 hw29 (by decide) rfl d_Md_build_26 ?_
      refine xr_iload_n C 2 d_Md_build_29 rfl rfl ?_
      refine xj_iald (k := 47) C (h) (by omega) hw47 (by decide) (by omega) (by decide) d_Md_build_30 ?_
      refine xr_eqz (y := -1 - (p : Int)) htd ?_
      refine xr_istore C d_Md_build_31 (by decide) ?_
      refine xr_iload C d_Md_build_33 rfl ?_
      refine xz_if_ge (tgt := 101) C d_Md_build_35 (by decide) (by omega) (fun c35 => by exfalso; omega) (fun c35 => ?_)
      refine xr_aload_n C 0 d_Md_build_38 rfl hq0 ?_
      refine xr_get (k := 29) C xg_Md_7 hw29 (by decide) rfl d_Md_build_39 ?_
      refine xr_iconst C d_Md_build_42 ?_
      refine xr_iload C d_Md_build_43 rfl ?_
      refine xz_isub C d_Md_build_45 ?_
      refine xj_iald (k := 30) C (p) (by omega) hw30 (by decide) (by omega) (by decide) d_Md_build_46 ?_
      refine xr_eqz (y := sSg S p) q1 ?_
      refine xr_istore C d_Md_build_47 (by decide) ?_
      refine xr_iconst C d_Md_build_49 ?_
      refine xr_istore C d_Md_build_50 (by decide) ?_
      refine xr_iload C d_Md_build_52 rfl ?_
      refine xr_callS C (m_Md_parts (x := sSg S p) (by omega)) xm_Md_93 x2_Md_parts (by decide) (by decide) (Nat.le_of_ble_eq_true rfl) rfl d_Md_build_54 (fun En n9 ad9 w9 hx9 => hx9.elim) (fun v n9 ad9 w9 hp => ?_)
      obtain ⟨rfl, rfl, rfl, rfl⟩ := hp
      show XW _ _ _ _ _ _ 57 _ (_ :: _)
      refine xr_eqz (y := 1) (by unfold prt; rw [if_neg (by omega), if_pos (by omega)]) ?_
      refine xr_iconst C d_Md_build_57 ?_
      refine xz_icmp_ne (tgt := 72) C d_Md_build_58 (by decide) (by omega) (by omega) (fun c58 => ?_) (fun c58 => by exfalso; omega)
      refine xr_iinc C d_Md_build_72 (by decide) hq3 ?_
      refine xr_aload_n C 0 d_Md_build_75 rfl hq0 ?_
      refine xr_get (k := 29) C xg_Md_68 hw29 (by decide) rfl d_Md_build_76 ?_
      refine xr_iload_n C 3 d_Md_build_79 rfl rfl ?_
      refine xr_aload_n C 0 d_Md_build_80 rfl hq0 ?_
      refine xr_iload C d_Md_build_81 rfl ?_
      refine xr_aload_n C 0 d_Md_build_83 rfl hq0 ?_
      refine xr_get (k := 29) C xg_Md_68 hw29 (by decide) rfl d_Md_build_84 ?_
      refine xr_iload_n C 3 d_Md_build_87 rfl rfl ?_
      refine xj_iald (k := 49) C (d) (by omega) hw49 (by decide) (by omega) (by decide) d_Md_build_88 ?_
      refine xr_eqz (y := a) hma ?_
      refine xr_iload C d_Md_build_89 rfl ?_
      refine xr_eqz (y := b) (by omega) ?_
      refine xr_callV (k9 := 29) C (m_Md_tree (s := sSg S p) (a := a) (b := b) hMT1 hT1 hsh) xm_Md_101 x2_Md_tree hw29 (by decide) rfl (by decide) (by decide) (Nat.le_of_ble_eq_true rfl) rfl d_Md_build_91 (fun En n9 ad9 w9 hx9 => hx9.elim) (fun v n9 ad9 w9 hp => ?_)
      obtain ⟨rfl, rfl, z, rfl, S2, e2, hMT2, hfr2⟩ := hp
      obtain ⟨g1, g2, g3, -⟩ := mkT_pos hT1 hsh e2
      have hw49 := (hfr2 49 (by omega)).trans hw49
      show XW _ _ _ _ _ _ 94 _ (_ :: _)
      refine xj_iast (k := 49) C (d) (by omega) hw49 (by decide) (by omega) (by decide) d_Md_build_94 ?_
      refine xr_iinc C d_Md_build_95 (by decide) rfl ?_
      refine xr_goto (tgt := 219) C d_Md_build_98 (by decide) ?_
      refine xr_goto (tgt := 11) C d_Md_build_219 (by decide) ?_
      rw [Bool.false_or] at hMT2
      have hB2 : BS ad cA w S γ ru ro sp nr ns th se so S2 (decide (z < 0)) _ td (va_up md d z) := ⟨g1, xt_trans hx1 (mkT_xt e2), mt_fr hMT2 (fun k a b => va_ne (by omega)), (va_ne (by decide)).trans ((hfr2 47 (by omega)).trans hw47), va_eq, (va_ne (by decide)).trans ((hfr2 48 (by omega)).trans hw48), fun k a b c => (va_ne c).trans ((hfr2 k a).trans (hfr k a b c))⟩
      by_cases hz : z < 0
      · rw [decide_eq_true hz] at hB2
        exact Kf S2 _ _ _ (by rw [← e2, show z = -1 by omega]) hB2 hq0 (by show some (Value.int (zI (((h + 1 : Nat) : Int) + -1))) = _; rw [show (((h + 1 : Nat) : Int) + -1) = (h : Int) by omega])
      · rw [decide_eq_false hz] at hB2
        exact Ks S2 z _ _ _ e2 (by omega) hB2 va_eq (fun i hi => va_ne (by omega)) hq0 (by show some (Value.int (zI (((h + 1 : Nat) : Int) + -1))) = _; rw [show (((h + 1 : Nat) : Int) + -1) = (h : Int) by omega]) (by show some (Value.int (zI (((d + 1 : Nat) : Int) + -1 + 1))) = _; rw [show ((d + 1 : Nat) : Int) + -1 + 1 = ((d + 1 : Nat) : Int) by omega])
  have V : ∀ (p : Nat), p < sN S → (∀ h, h < 6 → 0 < cnt S p h → 0 ≤ β h ∧ β h < sN S) → ∀ (S1 : xS) (h d : Nat) (w1 : Nat → va_E) (td md : Nat → Int) (lv : Nat → Option Value), BS ad cA w S γ ru ro sp nr ns th se so S1 false w1 td md → td h = (p : Int) → (h : Int) + 2 * sDp S p ≤ 1000 → (d : Int) + sDp S p ≤ 1000 → lv 0 = some (.ref (ad 29)) → lv 2 = some (.int (zI ((h + 1 : Nat) : Int))) → lv 3 = some (.int (zI (d : Int))) →
    (∀ (S2 : xS) (z : Int) (w2 : Nat → va_E) (td2 md2 : Nat → Int) (lv2 : Nat → Option Value), (z, S2) = bld S β p S1 → 0 ≤ z → BS ad cA w S γ ru ro sp nr ns th se so S2 false w2 td2 md2 → (∀ i, i < h → td2 i = td i) → md2 d = z → (∀ i, i < d → md2 i = md i) → lv2 0 = some (.ref (ad 29)) → lv2 2 = some (.int (zI (h : Int))) → lv2 3 = some (.int (zI ((d + 1 : Nat) : Int))) → XW G 56 ad w2 0 0 11 lv2 []) →
    (∀ (S2 : xS) (h2 : Nat) (w2 : Nat → va_E) (td2 md2 : Nat → Int) (lv2 : Nat → Option Value), (-1, S2) = bld S β p S1 → BS ad cA w S γ ru ro sp nr ns th se so S2 true w2 td2 md2 → lv2 0 = some (.ref (ad 29)) → h2 < 1100 → lv2 2 = some (.int (zI (h2 : Int))) → XW G 56 ad w2 0 0 11 lv2 []) → XW G 56 ad w1 0 0 11 lv [] := by
    intro p
    induction p using Nat.strongRecOn with
    | ind p ih =>
      intro hp hβ S1 h d w1 td md lv hB htd hh hd hq0 hq2 hq3 Ks Kf
      obtain ⟨hT1, hx1, hMT1, hw47, hw49, hw48, hfr⟩ := id hB
      obtain ⟨sg, fs, sn, wt, pl, dp, ho, hw29, hw30, hw31, hw32, hw33, hw34, hw35, hw36, hA⟩ := id hMT1
      have hNN := hx1.1
      have hN1 := hT1.1
      obtain ⟨q1, q2, q3, -⟩ := hA.1 p (by omega)
      obtain ⟨t1, t2, t3, -⟩ := hx1.2 p hp
      rw [t1] at q1
      rw [t2] at q2
      rw [t3] at q3
      have r1 := (hA.2 p).1
      have sp9 := (hT.2.1 p hp).1
      have hsp9 := sp9
      have hdc := dp_child hT hp
      have hdp := (hT.2.1 p hp).2.2.2.2.2
      unfold shp at sp9
      rcases sp9 with q | q | q | q
      · skip
        refine xr_iload_n C 2 d_Md_build_11 rfl hq2 ?_
        refine xz_if_le (tgt := 222) C d_Md_build_12 (by decide) (by omega) (fun c12 => by exfalso; omega) (fun c12 => ?_)
        refine xr_aload_n C 0 d_Md_build_15 rfl hq0 ?_
        refine xr_get (k := 29) C xg_Md_97 hw29 (by decide) rfl d_Md_build_16 ?_
        refine xb_if_ne (tgt := 222) C d_Md_build_19 (by decide)  (fun c19 => by exfalso; exact absurd c19 (by decide)) (fun c19 => ?_)
        refine xr_iinc C d_Md_build_22 (by decide) hq2 ?_
        refine xr_aload_n C 0 d_Md_build_25 rfl hq0 ?_
        refine xr_get (k := 29) C xg_Md_62 hw29 (by decide) rfl d_Md_build_26 ?_
        refine xr_iload_n C 2 d_Md_build_29 rfl rfl ?_
        refine xj_iald (k := 47) C (h) (by omega) hw47 (by decide) (by omega) (by decide) d_Md_build_30 ?_
        refine xr_eqz (y := (p : Int)) htd ?_
        refine xr_istore C d_Md_build_31 (by decide) ?_
        refine xr_iload C d_Md_build_33 rfl ?_
        refine xz_if_ge (tgt := 101) C d_Md_build_35 (by decide) (by omega) (fun c35 => ?_) (fun c35 => by exfalso; omega)
        refine xr_aload_n C 0 d_Md_build_101 rfl hq0 ?_
        refine xr_get (k := 29) C xg_Md_7 hw29 (by decide) rfl d_Md_build_102 ?_
        refine xr_iload C d_Md_build_105 rfl ?_
        refine xj_iald (k := 30) C (p) (by omega) hw30 (by decide) (by omega) (by decide) d_Md_build_107 ?_
        refine xr_callS C (m_Md_parts (x := sg p) (by omega)) xm_Md_93 x2_Md_parts (by decide) (by decide) (Nat.le_of_ble_eq_true rfl) rfl d_Md_build_108 (fun En n9 ad9 w9 hx9 => hx9.elim) (fun v n9 ad9 w9 hp => ?_)
        obtain ⟨rfl, rfl, rfl, rfl⟩ := hp
        show XW _ _ _ _ _ _ 111 _ (_ :: _)
        refine xr_eqz (y := 0) (by unfold prt; rw [if_pos (by omega)]) ?_
        refine xz_if_ne (tgt := 160) C d_Md_build_111 (by decide) (by omega) (fun c111 => by exfalso; omega) (fun c111 => ?_)
        refine xr_aload_n C 0 d_Md_build_114 rfl hq0 ?_
        refine xr_get (k := 29) C xg_Md_68 hw29 (by decide) rfl d_Md_build_115 ?_
        refine xr_iload_n C 3 d_Md_build_118 rfl hq3 ?_
        refine xr_aload_n C 0 d_Md_build_119 rfl hq0 ?_
        refine xr_get (k := 29) C xg_Md_7 hw29 (by decide) rfl d_Md_build_120 ?_
        refine xr_iload C d_Md_build_123 rfl ?_
        refine xj_iald (k := 30) C (p) (by omega) hw30 (by decide) (by omega) (by decide) d_Md_build_125 ?_
        refine xr_sipush C d_Md_build_126 (by decide) ?_
        refine xz_icmp_lt (tgt := 151) C d_Md_build_129 (by decide) (by omega) (by omega) (fun c129 => ?_) (fun c129 => by exfalso; omega)
        refine xr_iload C d_Md_build_151 rfl ?_
        refine xj_iast (k := 49) C (d) (by omega) hw49 (by decide) (by omega) (by decide) d_Md_build_153 ?_
        refine xr_iinc C d_Md_build_154 (by decide) hq3 ?_
        refine xr_goto (tgt := 219) C d_Md_build_157 (by decide) ?_
        refine xr_goto (tgt := 11) C d_Md_build_219 (by decide) ?_
        have hzz : 0 ≤ (p : Int) := by omega
        exact Ks S1 (p : Int) _ td _ _ (by rw [bld_0 (by omega) (by omega)]) hzz ⟨hT1, hx1, mt_fr hMT1 (fun k a b => va_ne (by omega)), hw47, rfl, hw48, fun k a b c => (va_ne c).trans (hfr k a b c)⟩ (fun i _ => rfl) va_eq (fun i hi => va_ne (by omega)) hq0 (by show some (Value.int (zI (((h + 1 : Nat) : Int) + -1))) = _; rw [show (((h + 1 : Nat) : Int) + -1) = (h : Int) by omega]) rfl
      · skip
        refine xr_iload_n C 2 d_Md_build_11 rfl hq2 ?_
        refine xz_if_le (tgt := 222) C d_Md_build_12 (by decide) (by omega) (fun c12 => by exfalso; omega) (fun c12 => ?_)
        refine xr_aload_n C 0 d_Md_build_15 rfl hq0 ?_
        refine xr_get (k := 29) C xg_Md_97 hw29 (by decide) rfl d_Md_build_16 ?_
        refine xb_if_ne (tgt := 222) C d_Md_build_19 (by decide)  (fun c19 => by exfalso; exact absurd c19 (by decide)) (fun c19 => ?_)
        refine xr_iinc C d_Md_build_22 (by decide) hq2 ?_
        refine xr_aload_n C 0 d_Md_build_25 rfl hq0 ?_
        refine xr_get (k := 29) C xg_Md_62 hw29 (by decide) rfl d_Md_build_26 ?_
        refine xr_iload_n C 2 d_Md_build_29 rfl rfl ?_
        refine xj_iald (k := 47) C (h) (by omega) hw47 (by decide) (by omega) (by decide) d_Md_build_30 ?_
        refine xr_eqz (y := (p : Int)) htd ?_
        refine xr_istore C d_Md_build_31 (by decide) ?_
        refine xr_iload C d_Md_build_33 rfl ?_
        refine xz_if_ge (tgt := 101) C d_Md_build_35 (by decide) (by omega) (fun c35 => ?_) (fun c35 => by exfalso; omega)
        refine xr_aload_n C 0 d_Md_build_101 rfl hq0 ?_
        refine xr_get (k := 29) C xg_Md_7 hw29 (by decide) rfl d_Md_build_102 ?_
        refine xr_iload C d_Md_build_105 rfl ?_
        refine xj_iald (k := 30) C (p) (by omega) hw30 (by decide) (by omega) (by decide) d_Md_build_107 ?_
        refine xr_callS C (m_Md_parts (x := sg p) (by omega)) xm_Md_93 x2_Md_parts (by decide) (by decide) (Nat.le_of_ble_eq_true rfl) rfl d_Md_build_108 (fun En n9 ad9 w9 hx9 => hx9.elim) (fun v n9 ad9 w9 hp => ?_)
        obtain ⟨rfl, rfl, rfl, rfl⟩ := hp
        show XW _ _ _ _ _ _ 111 _ (_ :: _)
        refine xr_eqz (y := 0) (by unfold prt; rw [if_pos (by omega)]) ?_
        refine xz_if_ne (tgt := 160) C d_Md_build_111 (by decide) (by omega) (fun c111 => by exfalso; omega) (fun c111 => ?_)
        refine xr_aload_n C 0 d_Md_build_114 rfl hq0 ?_
        refine xr_get (k := 29) C xg_Md_68 hw29 (by decide) rfl d_Md_build_115 ?_
        refine xr_iload_n C 3 d_Md_build_118 rfl hq3 ?_
        refine xr_aload_n C 0 d_Md_build_119 rfl hq0 ?_
        refine xr_get (k := 29) C xg_Md_7 hw29 (by decide) rfl d_Md_build_120 ?_
        refine xr_iload C d_Md_build_123 rfl ?_
        refine xj_iald (k := 30) C (p) (by omega) hw30 (by decide) (by omega) (by decide) d_Md_build_125 ?_
        refine xr_sipush C d_Md_build_126 (by decide) ?_
        refine xz_icmp_lt (tgt := 151) C d_Md_build_129 (by decide) (by omega) (by omega) (fun c129 => by exfalso; omega) (fun c129 => ?_)
        refine xr_aload_n C 0 d_Md_build_132 rfl hq0 ?_
        refine xr_get (k := 29) C xg_Md_65 hw29 (by decide) rfl d_Md_build_133 ?_
        refine xr_aload_n C 0 d_Md_build_136 rfl hq0 ?_
        refine xr_get (k := 29) C xg_Md_7 hw29 (by decide) rfl d_Md_build_137 ?_
        refine xr_iload C d_Md_build_140 rfl ?_
        refine xj_iald (k := 30) C (p) (by omega) hw30 (by decide) (by omega) (by decide) d_Md_build_142 ?_
        refine xr_sipush C d_Md_build_143 (by decide) ?_
        refine xz_isub C d_Md_build_146 ?_
        refine xr_eqz (y := (((sSg S p - 200).toNat : Nat) : Int)) (by omega) ?_
        refine xj_iald (k := 48) C ((sSg S p - 200).toNat) (by omega) hw48 (by decide) (by omega) (by decide) d_Md_build_147 ?_
        refine xr_goto (tgt := 153) C d_Md_build_148 (by decide) ?_
        refine xj_iast (k := 49) C (d) (by omega) hw49 (by decide) (by omega) (by decide) d_Md_build_153 ?_
        refine xr_iinc C d_Md_build_154 (by decide) hq3 ?_
        refine xr_goto (tgt := 219) C d_Md_build_157 (by decide) ?_
        refine xr_goto (tgt := 11) C d_Md_build_219 (by decide) ?_
        have hzz : 0 ≤ γ (sSg S p - 200).toNat := by
          rw [hγ _ (by omega)]
          have := cnt_hole hT hp (h := (sSg S p - 200).toNat) (by omega)
          exact (hβ _ (by omega) (by omega)).1
        exact Ks S1 (γ (sSg S p - 200).toNat) _ td _ _ (by rw [bld_h (by omega)]; rw [hγ _ (by omega)]) hzz ⟨hT1, hx1, mt_fr hMT1 (fun k a b => va_ne (by omega)), hw47, rfl, hw48, fun k a b c => (va_ne c).trans (hfr k a b c)⟩ (fun i _ => rfl) va_eq (fun i hi => va_ne (by omega)) hq0 (by show some (Value.int (zI (((h + 1 : Nat) : Int) + -1))) = _; rw [show (((h + 1 : Nat) : Int) + -1) = (h : Int) by omega]) rfl
      · skip
        refine xr_iload_n C 2 d_Md_build_11 rfl hq2 ?_
        refine xz_if_le (tgt := 222) C d_Md_build_12 (by decide) (by omega) (fun c12 => by exfalso; omega) (fun c12 => ?_)
        refine xr_aload_n C 0 d_Md_build_15 rfl hq0 ?_
        refine xr_get (k := 29) C xg_Md_97 hw29 (by decide) rfl d_Md_build_16 ?_
        refine xb_if_ne (tgt := 222) C d_Md_build_19 (by decide)  (fun c19 => by exfalso; exact absurd c19 (by decide)) (fun c19 => ?_)
        refine xr_iinc C d_Md_build_22 (by decide) hq2 ?_
        refine xr_aload_n C 0 d_Md_build_25 rfl hq0 ?_
        refine xr_get (k := 29) C xg_Md_62 hw29 (by decide) rfl d_Md_build_26 ?_
        refine xr_iload_n C 2 d_Md_build_29 rfl rfl ?_
        refine xj_iald (k := 47) C (h) (by omega) hw47 (by decide) (by omega) (by decide) d_Md_build_30 ?_
        refine xr_eqz (y := (p : Int)) htd ?_
        refine xr_istore C d_Md_build_31 (by decide) ?_
        refine xr_iload C d_Md_build_33 rfl ?_
        refine xz_if_ge (tgt := 101) C d_Md_build_35 (by decide) (by omega) (fun c35 => ?_) (fun c35 => by exfalso; omega)
        refine xr_aload_n C 0 d_Md_build_101 rfl hq0 ?_
        refine xr_get (k := 29) C xg_Md_7 hw29 (by decide) rfl d_Md_build_102 ?_
        refine xr_iload C d_Md_build_105 rfl ?_
        refine xj_iald (k := 30) C (p) (by omega) hw30 (by decide) (by omega) (by decide) d_Md_build_107 ?_
        refine xr_callS C (m_Md_parts (x := sg p) (by omega)) xm_Md_93 x2_Md_parts (by decide) (by decide) (Nat.le_of_ble_eq_true rfl) rfl d_Md_build_108 (fun En n9 ad9 w9 hx9 => hx9.elim) (fun v n9 ad9 w9 hp => ?_)
        obtain ⟨rfl, rfl, rfl, rfl⟩ := hp
        show XW _ _ _ _ _ _ 111 _ (_ :: _)
        refine xr_eqz (y := 1) (by unfold prt; rw [if_neg (by omega), if_pos (by omega)]) ?_
        refine xz_if_ne (tgt := 160) C d_Md_build_111 (by decide) (by omega) (fun c111 => ?_) (fun c111 => by exfalso; omega)
        refine xr_aload_n C 0 d_Md_build_160 rfl hq0 ?_
        refine xr_get (k := 29) C xg_Md_62 hw29 (by decide) rfl d_Md_build_161 ?_
        refine xr_iload_n C 2 d_Md_build_164 rfl rfl ?_
        refine xr_iconst C d_Md_build_165 ?_
        refine xr_iload C d_Md_build_166 rfl ?_
        refine xz_isub C d_Md_build_168 ?_
        refine xj_iast (k := 47) C (h) (by omega) hw47 (by decide) (by omega) (by decide) d_Md_build_169 ?_
        refine xr_iinc C d_Md_build_170 (by decide) rfl ?_
        refine xr_aload_n C 0 d_Md_build_173 rfl hq0 ?_
        refine xr_get (k := 29) C xg_Md_7 hw29 (by decide) rfl d_Md_build_174 ?_
        refine xr_iload C d_Md_build_177 rfl ?_
        refine xj_iald (k := 30) C (p) (by omega) hw30 (by decide) (by omega) (by decide) d_Md_build_179 ?_
        refine xr_callS C (m_Md_parts (x := sg p) (by omega)) xm_Md_93 x2_Md_parts (by decide) (by decide) (Nat.le_of_ble_eq_true rfl) rfl d_Md_build_180 (fun En n9 ad9 w9 hx9 => hx9.elim) (fun v n9 ad9 w9 hp => ?_)
        obtain ⟨rfl, rfl, rfl, rfl⟩ := hp
        show XW _ _ _ _ _ _ 183 _ (_ :: _)
        refine xr_eqz (y := 1) (by unfold prt; rw [if_neg (by omega), if_pos (by omega)]) ?_
        refine xr_iconst C d_Md_build_183 ?_
        refine xz_icmp_ne (tgt := 203) C d_Md_build_184 (by decide) (by omega) (by omega) (fun c184 => ?_) (fun c184 => by exfalso; omega)
        refine xr_aload_n C 0 d_Md_build_203 rfl hq0 ?_
        refine xr_get (k := 29) C xg_Md_62 hw29 (by decide) rfl d_Md_build_204 ?_
        refine xr_iload_n C 2 d_Md_build_207 rfl rfl ?_
        refine xr_aload_n C 0 d_Md_build_208 rfl hq0 ?_
        refine xr_get (k := 29) C xg_Md_13 hw29 (by decide) rfl d_Md_build_209 ?_
        refine xr_iload C d_Md_build_212 rfl ?_
        refine xj_iald (k := 31) C (p) (by omega) hw31 (by decide) (by omega) (by decide) d_Md_build_214 ?_
        refine xr_eqz (y := (((sFs S p).toNat : Nat) : Int)) (by omega) ?_
        refine xj_iast (k := 47) C (h + 1) (by omega) rfl (by decide) (by omega) (by decide) d_Md_build_215 ?_
        refine xr_iinc C d_Md_build_216 (by decide) rfl ?_
        refine xr_goto (tgt := 11) C d_Md_build_219 (by decide) ?_
        have hcn := cnt_node hT hp (by omega)
        have hbf : ∀ h, h < 6 → 0 < cnt S (sFs S p).toNat h → 0 ≤ β h ∧ β h < sN S := fun h h6 hc9 => hβ h h6 (by
          rw [hcn h]
          split
          · have := (cnt_in hT (j := (sSn S p).toNat) (by omega) h).1
            omega
          · omega)
        have d1 := hdc.1 (by omega)
        refine ih (sFs S p).toNat (by omega) (by omega) hbf S1 (h + 1) d _ _ md _ ⟨hT1, hx1, mt_fr hMT1 (fun k a b => (va_ne (by omega)).trans (va_ne (by omega))), rfl, hw49, hw48, fun k a b c => (va_ne b).trans ((va_ne b).trans (hfr k a b c))⟩ va_eq (by omega) (by omega) hq0 (by show some (Value.int (zI (((h + 1 : Nat) : Int) + -1 + 1 + 1))) = _; rw [show (((h + 1 : Nat) : Int) + -1 + 1 + 1) = ((h + 1 + 1 : Nat) : Int) by omega]) hq3 ?_ ?_
        · intro S2 z w2 td2 md2 lv2 e2 hz hB2 htd2 hmd2 hmd3 hl0 hl2 hl3
          have ok := bld_ok hT (sFs S p).toNat S1 z S2 (by omega) hT1 hx1 hbf e2
          have hth : td2 h = -1 - (p : Int) := by rw [htd2 h (by omega), va_ne (by omega), va_eq]
          refine Cb p hp (by omega) S2 h d w2 td2 md2 z (-1) lv2 hB2 hth (by omega) (by omega) hmd2 (fun g => by omega) (fun _ => rfl) (by unfold shp; omega) hl0 hl2 (by rw [if_neg (by omega)]; exact hl3) ?_ ?_
          · intro S3 z3 w3 md3 lv3 e3 hz3 hB3 hm1 hm2 k0 k2 k3
            exact Ks S3 z3 w3 td2 md3 lv3 (by rw [bld_1 (by omega) (by omega) e2 (by omega)]; exact e3) hz3 hB3 (fun i hi => by rw [htd2 i (by omega), va_ne (by omega), va_ne (by omega)]) hm1 (fun i hi => by rw [hm2 i hi]; exact hmd3 i hi) k0 k2 k3
          · intro S3 w3 md3 lv3 e3 hB3 k0 k2
            exact Kf S3 h w3 td2 md3 lv3 (by rw [bld_1 (by omega) (by omega) e2 (by omega)]; exact e3) hB3 k0 (by omega) k2
        · intro S2 h2 w2 td2 md2 lv2 e2 hB2 k0 kh k2
          exact Kf S2 h2 w2 td2 md2 lv2 (by rw [bld_f (by omega) (by omega) e2 (by omega)]) hB2 k0 kh k2
      · skip
        refine xr_iload_n C 2 d_Md_build_11 rfl hq2 ?_
        refine xz_if_le (tgt := 222) C d_Md_build_12 (by decide) (by omega) (fun c12 => by exfalso; omega) (fun c12 => ?_)
        refine xr_aload_n C 0 d_Md_build_15 rfl hq0 ?_
        refine xr_get (k := 29) C xg_Md_97 hw29 (by decide) rfl d_Md_build_16 ?_
        refine xb_if_ne (tgt := 222) C d_Md_build_19 (by decide)  (fun c19 => by exfalso; exact absurd c19 (by decide)) (fun c19 => ?_)
        refine xr_iinc C d_Md_build_22 (by decide) hq2 ?_
        refine xr_aload_n C 0 d_Md_build_25 rfl hq0 ?_
        refine xr_get (k := 29) C xg_Md_62 hw29 (by decide) rfl d_Md_build_26 ?_
        refine xr_iload_n C 2 d_Md_build_29 rfl rfl ?_
        refine xj_iald (k := 47) C (h) (by omega) hw47 (by decide) (by omega) (by decide) d_Md_build_30 ?_
        refine xr_eqz (y := (p : Int)) htd ?_
        refine xr_istore C d_Md_build_31 (by decide) ?_
        refine xr_iload C d_Md_build_33 rfl ?_
        refine xz_if_ge (tgt := 101) C d_Md_build_35 (by decide) (by omega) (fun c35 => ?_) (fun c35 => by exfalso; omega)
        refine xr_aload_n C 0 d_Md_build_101 rfl hq0 ?_
        refine xr_get (k := 29) C xg_Md_7 hw29 (by decide) rfl d_Md_build_102 ?_
        refine xr_iload C d_Md_build_105 rfl ?_
        refine xj_iald (k := 30) C (p) (by omega) hw30 (by decide) (by omega) (by decide) d_Md_build_107 ?_
        refine xr_callS C (m_Md_parts (x := sg p) (by omega)) xm_Md_93 x2_Md_parts (by decide) (by decide) (Nat.le_of_ble_eq_true rfl) rfl d_Md_build_108 (fun En n9 ad9 w9 hx9 => hx9.elim) (fun v n9 ad9 w9 hp => ?_)
        obtain ⟨rfl, rfl, rfl, rfl⟩ := hp
        show XW _ _ _ _ _ _ 111 _ (_ :: _)
        refine xr_eqz (y := 2) (by unfold prt; rw [if_neg (by omega), if_neg (by omega)]) ?_
        refine xz_if_ne (tgt := 160) C d_Md_build_111 (by decide) (by omega) (fun c111 => ?_) (fun c111 => by exfalso; omega)
        refine xr_aload_n C 0 d_Md_build_160 rfl hq0 ?_
        refine xr_get (k := 29) C xg_Md_62 hw29 (by decide) rfl d_Md_build_161 ?_
        refine xr_iload_n C 2 d_Md_build_164 rfl rfl ?_
        refine xr_iconst C d_Md_build_165 ?_
        refine xr_iload C d_Md_build_166 rfl ?_
        refine xz_isub C d_Md_build_168 ?_
        refine xj_iast (k := 47) C (h) (by omega) hw47 (by decide) (by omega) (by decide) d_Md_build_169 ?_
        refine xr_iinc C d_Md_build_170 (by decide) rfl ?_
        refine xr_aload_n C 0 d_Md_build_173 rfl hq0 ?_
        refine xr_get (k := 29) C xg_Md_7 hw29 (by decide) rfl d_Md_build_174 ?_
        refine xr_iload C d_Md_build_177 rfl ?_
        refine xj_iald (k := 30) C (p) (by omega) hw30 (by decide) (by omega) (by decide) d_Md_build_179 ?_
        refine xr_callS C (m_Md_parts (x := sg p) (by omega)) xm_Md_93 x2_Md_parts (by decide) (by decide) (Nat.le_of_ble_eq_true rfl) rfl d_Md_build_180 (fun En n9 ad9 w9 hx9 => hx9.elim) (fun v n9 ad9 w9 hp => ?_)
        obtain ⟨rfl, rfl, rfl, rfl⟩ := hp
        show XW _ _ _ _ _ _ 183 _ (_ :: _)
        refine xr_eqz (y := 2) (by unfold prt; rw [if_neg (by omega), if_neg (by omega)]) ?_
        refine xr_iconst C d_Md_build_183 ?_
        refine xz_icmp_ne (tgt := 203) C d_Md_build_184 (by decide) (by omega) (by omega) (fun c184 => by exfalso; omega) (fun c184 => ?_)
        refine xr_aload_n C 0 d_Md_build_187 rfl hq0 ?_
        refine xr_get (k := 29) C xg_Md_62 hw29 (by decide) rfl d_Md_build_188 ?_
        refine xr_iload_n C 2 d_Md_build_191 rfl rfl ?_
        refine xr_aload_n C 0 d_Md_build_192 rfl hq0 ?_
        refine xr_get (k := 29) C xg_Md_16 hw29 (by decide) rfl d_Md_build_193 ?_
        refine xr_iload C d_Md_build_196 rfl ?_
        refine xj_iald (k := 32) C (p) (by omega) hw32 (by decide) (by omega) (by decide) d_Md_build_198 ?_
        refine xr_eqz (y := (((sSn S p).toNat : Nat) : Int)) (by omega) ?_
        refine xj_iast (k := 47) C (h + 1) (by omega) rfl (by decide) (by omega) (by decide) d_Md_build_199 ?_
        refine xr_iinc C d_Md_build_200 (by decide) rfl ?_
        refine xr_aload_n C 0 d_Md_build_203 rfl hq0 ?_
        refine xr_get (k := 29) C xg_Md_62 hw29 (by decide) rfl d_Md_build_204 ?_
        refine xr_iload_n C 2 d_Md_build_207 rfl rfl ?_
        refine xr_aload_n C 0 d_Md_build_208 rfl hq0 ?_
        refine xr_get (k := 29) C xg_Md_13 hw29 (by decide) rfl d_Md_build_209 ?_
        refine xr_iload C d_Md_build_212 rfl ?_
        refine xj_iald (k := 31) C (p) (by omega) hw31 (by decide) (by omega) (by decide) d_Md_build_214 ?_
        refine xr_eqz (y := (((sFs S p).toNat : Nat) : Int)) (by omega) ?_
        refine xj_iast (k := 47) C (h + 2) (by omega) rfl (by decide) (by omega) (by decide) d_Md_build_215 ?_
        refine xr_iinc C d_Md_build_216 (by decide) rfl ?_
        refine xr_goto (tgt := 11) C d_Md_build_219 (by decide) ?_
        have hcn := cnt_node hT hp (by omega)
        have hbf : ∀ h, h < 6 → 0 < cnt S (sFs S p).toNat h → 0 ≤ β h ∧ β h < sN S := fun h h6 hc9 => hβ h h6 (by
          rw [hcn h]
          split
          · have := (cnt_in hT (j := (sSn S p).toNat) (by omega) h).1
            omega
          · omega)
        have d1 := hdc.1 (by omega)
        have d2 := hdc.2 (by omega) (by omega)
        have hbs : ∀ h, h < 6 → 0 < cnt S (sSn S p).toNat h → 0 ≤ β h ∧ β h < sN S := fun h h6 hc9 => hβ h h6 (by
          rw [hcn h, if_pos (by omega)]
          have := (cnt_in hT (j := (sFs S p).toNat) (by omega) h).1
          omega)
        refine ih (sFs S p).toNat (by omega) (by omega) hbf S1 (h + 2) d _ _ md _ ⟨hT1, hx1, mt_fr hMT1 (fun k a b => (va_ne (by omega)).trans ((va_ne (by omega)).trans (va_ne (by omega)))), rfl, hw49, hw48, fun k a b c => (va_ne b).trans ((va_ne b).trans ((va_ne b).trans (hfr k a b c)))⟩ va_eq (by omega) (by omega) hq0 (by show some (Value.int (zI (((h + 1 : Nat) : Int) + -1 + 1 + 1 + 1))) = _; rw [show (((h + 1 : Nat) : Int) + -1 + 1 + 1 + 1) = ((h + 2 + 1 : Nat) : Int) by omega]) hq3 ?_ ?_
        · intro S2 z w2 td2 md2 lv2 e2 hz hB2 htd2 hmd2 hmd3 hl0 hl2 hl3
          have ok := bld_ok hT (sFs S p).toNat S1 z S2 (by omega) hT1 hx1 hbf e2
          have hth : td2 h = -1 - (p : Int) := by rw [htd2 h (by omega), va_ne (by omega), va_ne (by omega), va_eq]
          have hth1 : td2 (h + 1) = (((sSn S p).toNat : Nat) : Int) := by rw [htd2 (h + 1) (by omega), va_ne (by omega), va_eq]
          refine ih (sSn S p).toNat (by omega) (by omega) hbs S2 (h + 1) (d + 1) w2 td2 md2 lv2 hB2 hth1 (by omega) (by omega) hl0 hl2 hl3 ?_ ?_
          · intro S4 y w4 td4 md4 lv4 e4 hy hB4 htd4 hmd4 hmd5 hm0 hm2 hm3
            have ok4 := bld_ok hT (sSn S p).toNat S2 y S4 (by omega) ok.1 (xt_trans hx1 ok.2.1) hbs e4
            have hNN4 := ok4.2.1.1
            have hth4 : td4 h = -1 - (p : Int) := by rw [htd4 h (by omega)]; exact hth
            refine Cb p hp (by omega) S4 h d w4 td4 md4 z y lv4 hB4 hth4 (by omega) (by omega) (by rw [hmd5 d (by omega)]; exact hmd2) (fun _ => hmd4) (fun g => by omega) (by unfold shp; omega) hm0 hm2 (by rw [if_pos (by omega)]; exact hm3) ?_ ?_
            · intro S3 z3 w3 md3 lv3 e3 hz3 hB3 hm1 hm2 k0 k2 k3
              exact Ks S3 z3 w3 td4 md3 lv3 (by rw [bld_2 (by omega) (by omega) (by omega) (by omega) e2 (by omega) e4 (by omega)]; exact e3) hz3 hB3 (fun i hi => by rw [htd4 i (by omega), htd2 i (by omega), va_ne (by omega), va_ne (by omega), va_ne (by omega)]) hm1 (fun i hi => by rw [hm2 i hi, hmd5 i (by omega)]; exact hmd3 i hi) k0 k2 k3
            · intro S3 w3 md3 lv3 e3 hB3 k0 k2
              exact Kf S3 h w3 td4 md3 lv3 (by rw [bld_2 (by omega) (by omega) (by omega) (by omega) e2 (by omega) e4 (by omega)]; exact e3) hB3 k0 (by omega) k2
          · intro S4 h4 w4 td4 md4 lv4 e4 hB4 k0 kh k2
            exact Kf S4 h4 w4 td4 md4 lv4 (by rw [bld_2f (by omega) (by omega) (by omega) (by omega) e2 (by omega) e4 (by omega)]) hB4 k0 kh k2
        · intro S2 h2 w2 td2 md2 lv2 e2 hB2 k0 kh k2
          exact Kf S2 h2 w2 td2 md2 lv2 (by rw [bld_f (by omega) (by omega) e2 (by omega)]) hB2 k0 kh k2
  refine xr_iconst C d_Md_build_0 ?_
  refine xr_istore_n C 2 d_Md_build_1 rfl (by decide) ?_
  refine xr_iconst C d_Md_build_2 ?_
  refine xr_istore_n C 3 d_Md_build_3 rfl (by decide) ?_
  refine xr_aload_n C 0 d_Md_build_4 rfl rfl ?_
  refine xr_get (k := 29) C xg_Md_62 hw29 (by decide) rfl d_Md_build_5 ?_
  refine xr_iconst C d_Md_build_8 ?_
  refine xr_iload_n C 1 d_Md_build_9 rfl rfl ?_
  refine xj_iast (k := 47) C (0) (by omega) hw47 (by decide) (by omega) (by decide) d_Md_build_10 ?_
  refine V r hr hβ S 0 0 _ _ md0 _ ⟨hT, xt_refl S, mt_fr hMT (fun k a b => va_ne (by omega)), rfl, hw49, hw48, fun k a b c => va_ne b⟩ va_eq (by have := (hT.2.1 r hr).2.2.2.2.2; omega) (by have := (hT.2.1 r hr).2.2.2.2.2; omega) rfl rfl rfl ?_ ?_
  · intro S2 z w2 td2 md2 lv2 e2 hz hB htd2 hmz hmd3 hl0 hl2 hl3
    obtain ⟨hT1, hx1, hMT1, hw47, hw49, hw48, hfr⟩ := id hB
    obtain ⟨sg, fs, sn, wt, pl, dp, ho, hw29, hw30, hw31, hw32, hw33, hw34, hw35, hw36, hA⟩ := id hMT1
    refine xr_iload_n C 2 d_Md_build_11 rfl hl2 ?_
    refine xz_if_le (tgt := 222) C d_Md_build_12 (by decide) (by omega) (fun c12 => ?_) (fun c12 => by exfalso; omega)
    refine xr_aload_n C 0 d_Md_build_222 rfl hl0 ?_
    refine xr_get (k := 29) C xg_Md_97 hw29 (by decide) rfl d_Md_build_223 ?_
    refine xb_if_eq (tgt := 233) C d_Md_build_226 (by decide)  (fun c226 => ?_) (fun c226 => by exfalso; exact absurd c226 (by decide))
    refine xr_aload_n C 0 d_Md_build_233 rfl hl0 ?_
    refine xr_get (k := 29) C xg_Md_68 hw29 (by decide) rfl d_Md_build_234 ?_
    refine xr_iconst C d_Md_build_237 ?_
    refine xj_iald (k := 49) C (0) (by omega) hw49 (by decide) (by omega) (by decide) d_Md_build_238 ?_
    refine xr_eqz (y := z) hmz ?_
    exact xr_iret C E ⟨rfl, rfl, _, rfl, S2, e2, by rw [decide_eq_false (by omega)]; exact hMT1, ⟨td2, hw47⟩, ⟨md2, hw49⟩, hfr⟩ (by decide) (by decide) d_Md_build_239
  · intro S2 h2 w2 td2 md2 lv2 e2 hB hl0 kh hl2
    obtain ⟨hT1, hx1, hMT1, hw47, hw49, hw48, hfr⟩ := id hB
    obtain ⟨sg, fs, sn, wt, pl, dp, ho, hw29, hw30, hw31, hw32, hw33, hw34, hw35, hw36, hA⟩ := id hMT1
    refine xr_iload_n C 2 d_Md_build_11 rfl hl2 ?_
    refine xz_if_le (tgt := 222) C d_Md_build_12 (by decide) (by omega) (fun c12 => ?_) (fun c12 => ?_)
    · skip
      refine xr_aload_n C 0 d_Md_build_222 rfl hl0 ?_
      refine xr_get (k := 29) C xg_Md_97 hw29 (by decide) rfl d_Md_build_223 ?_
      refine xb_if_eq (tgt := 233) C d_Md_build_226 (by decide)  (fun c226 => by exfalso; exact absurd c226 (by decide)) (fun c226 => ?_)
      refine xr_iconst C d_Md_build_229 ?_
      refine xr_goto (tgt := 239) C d_Md_build_230 (by decide) ?_
      exact xr_iret C E ⟨rfl, rfl, _, rfl, S2, e2, by rw [decide_eq_true (by omega)]; exact hMT1, ⟨td2, hw47⟩, ⟨md2, hw49⟩, hfr⟩ (by decide) (by decide) d_Md_build_239
    · skip
      refine xr_aload_n C 0 d_Md_build_15 rfl hl0 ?_
      refine xr_get (k := 29) C xg_Md_97 hw29 (by decide) rfl d_Md_build_16 ?_
      refine xb_if_ne (tgt := 222) C d_Md_build_19 (by decide)  (fun c19 => ?_) (fun c19 => by exfalso; exact absurd c19 (by decide))
      refine xr_aload_n C 0 d_Md_build_222 rfl hl0 ?_
      refine xr_get (k := 29) C xg_Md_97 hw29 (by decide) rfl d_Md_build_223 ?_
      refine xb_if_eq (tgt := 233) C d_Md_build_226 (by decide)  (fun c226 => by exfalso; exact absurd c226 (by decide)) (fun c226 => ?_)
      refine xr_iconst C d_Md_build_229 ?_
      refine xr_goto (tgt := 239) C d_Md_build_230 (by decide) ?_
      exact xr_iret C E ⟨rfl, rfl, _, rfl, S2, e2, by rw [decide_eq_true (by omega)]; exact hMT1, ⟨td2, hw47⟩, ⟨md2, hw49⟩, hfr⟩ (by decide) (by decide) d_Md_build_239
