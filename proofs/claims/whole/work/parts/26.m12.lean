theorem mt_fr {ad : Nat → Nat} {cA : Nat → ClassId} {w w' : Nat → va_E} {S : xS} {ru ro sp nr ns th : Int} {se fa so : Bool} (h : MT ad cA w S ru ro sp nr ns th se fa so) (hf : ∀ k, 29 ≤ k → k ≤ 36 → w' k = w k) : MT ad cA w' S ru ro sp nr ns th se fa so := by
  obtain ⟨sg, fs, sn, wt, pl, dp, ho, hw29, hw30, hw31, hw32, hw33, hw34, hw35, hw36, hA⟩ := h
  exact ⟨sg, fs, sn, wt, pl, dp, ho, (hf 29 (by decide) (by decide)).trans hw29, (hf 30 (by decide) (by decide)).trans hw30, (hf 31 (by decide) (by decide)).trans hw31, (hf 32 (by decide) (by decide)).trans hw32, (hf 33 (by decide) (by decide)).trans hw33, (hf 34 (by decide) (by decide)).trans hw34, (hf 35 (by decide) (by decide)).trans hw35, (hf 36 (by decide) (by decide)).trans hw36, hA⟩
/-- the rows that the order's walk writes -/
def SA (cA : Nat → ClassId) (w : Nat → va_E) : Prop := (∃ f, w 46 = xIA (cA 0) 1001 f) ∧ (∃ f, w 47 = xIA (cA 0) 1100 f) ∧ (∃ f, w 50 = xIA (cA 0) 6 f) ∧ (∃ f, w 51 = xIA (cA 0) 6 f)
/-- how often the hole h stands in the first i places of a row -/
def cU (S : xS) (l : List Nat) (i h : Nat) : Int := (((l.take i).filter (fun j => decide (sSg S j = 200 + (h : Int)))).length : Nat)
theorem cU_succ {S : xS} {l : List Nat} {i x : Nat} (hx : l[i]? = some x) (h : Nat) : cU S l (i + 1) h = cU S l i h + (if sSg S x = 200 + (h : Int) then 1 else 0) := by
  unfold cU
  rw [List.take_add_one, hx, List.filter_append, List.length_append]
  by_cases q : sSg S x = 200 + (h : Int)
  · rw [if_pos q]; simp [q]
  · rw [if_neg q]; simp [q]
theorem ly_mem {S : xS} (hT : Tb S) {t : Nat} (ht : t < sN S) {i x : Nat} (hx : (lyS S t)[i]? = some x) : x < sN S := by
  have := ly_lt t x (List.mem_of_getElem? hx)
  omega
set_option maxHeartbeats 4000000 in
set_option maxRecDepth 100000 in
theorem m_Md_countHoles_50 {L : Launch} {D : va_G} {cA : Nat → ClassId} {base : Nat} {ad : Nat → Nat} {w : Nat → va_E} {S : xS} {ru ro sp nr ns th : Int} {se fa so : Bool} (hMT : MT ad cA w S ru ro sp nr ns th se fa so) (hT : Tb S) {t : Nat} (ht : t < sN S) (hSA : SA cA w) : XM L D cA base y_Md_countHoles c_Md_countHoles 5 none (xrm 2 0 0) [.ref (ad 29), .int (zI (t : Int)), .ref (ad 50)] 56 ad w (xVoid 56 ad (fun w' => ∃ f g : Nat → Int, w' 50 = xIA (cA 0) 6 f ∧ (∀ h, h < 6 → f h = cnt S t h) ∧ w' 46 = xIA (cA 0) 1001 g ∧ (∃ g, w' 47 = xIA (cA 0) 1100 g) ∧ (∀ k, k ≠ 46 → k ≠ 47 → k ≠ 50 → w' k = w k))) xF := by
  refine xm_of (by decide +kernel) (by simp [Value.category]) (Nat.le_of_ble_eq_true rfl) (fun G C E _ => ?_)
  have hMT := hMT
  obtain ⟨sg, fs, sn, wt, pl, dp, ho, hw29, hw30, hw31, hw32, hw33, hw34, hw35, hw36, hA⟩ := id hMT
  obtain ⟨⟨g6, hw46⟩, ⟨g7, hw47⟩, ⟨g50, hw50⟩, ⟨g51, hw51⟩⟩ := hSA
  have hlen : ((lyS S t).length : Int) = sPl S t := ly_len hT t ht
  have hpl := (hT.2.1 t ht).2.2.2.2.2
  have hN := hT.1
  have lp2 : ∀ (k i : Nat) (w2 : Nat → va_E) (f g : Nat → Int) (lv : Nat → Option Value), (lyS S t).length + 1 ≤ i + k → i ≤ (lyS S t).length → w2 50 = xIA (cA 0) 6 f → w2 46 = xIA (cA 0) 1001 g → (∃ g, w2 47 = xIA (cA 0) 1100 g) → (∀ h, h < 6 → f h = cU S (lyS S t) i h) → DN g (lyS S t) → (∀ k, k ≠ 46 → k ≠ 47 → k ≠ 50 → w2 k = w k) → lv 0 = some (.ref (ad 29)) → lv 2 = some (.ref (ad 50)) → lv 3 = some (.int (zI ((lyS S t).length : Int))) → lv 4 = some (.int (zI (i : Int))) → XW G 56 ad w2 0 0 32 lv [] := by
    intro k
    induction k with
    | zero => intro i w2 f g lv h1 h2; exact absurd h1 (by omega)
    | succ k ih =>
      intro i w2 f g lv h1 h2 hw50 hw46 hw47 hcu hDN hfr hl0 hl2 hl3 hl4
      have hw29 := (hfr 29 (by decide) (by decide) (by decide)).trans hw29
      have hw30 := (hfr 30 (by decide) (by decide) (by decide)).trans hw30
      refine xr_iload C d_Md_countHoles_32 hl4 ?_
      refine xr_iload_n C 3 d_Md_countHoles_34 rfl hl3 ?_
      refine xz_icmp_ge (tgt := 84) C d_Md_countHoles_35 (by decide) (by omega) (by omega) (fun c35 => ?_) (fun c35 => ?_)
      · skip
        exact xr_vret C E ⟨rfl, rfl, rfl, f, g, hw50, fun h hh => by rw [hcu h hh, show i = (lyS S t).length by omega]; unfold cU cnt; rw [List.take_length], hw46, hw47, hfr⟩ (by decide) (by decide) d_Md_countHoles_84
      · skip
        have hx9 : i < (lyS S t).length := by omega
        obtain ⟨x, hx⟩ : ∃ x, (lyS S t)[i]? = some x := ⟨_, List.getElem?_eq_getElem hx9⟩
        have hxN := ly_mem hT ht hx
        have q1 := (hA.1 x hxN).1
        have qs := (hT.2.1 x hxN).1
        have hsr : 0 ≤ sg x ∧ sg x ≤ 205 := by unfold shp at qs; omega
        refine xr_aload_n C 0 d_Md_countHoles_38 rfl hl0 ?_
        refine xr_get (k := 29) C xg_Md_7 hw29 (by decide) rfl d_Md_countHoles_39 ?_
        refine xr_aload_n C 0 d_Md_countHoles_42 rfl hl0 ?_
        refine xr_get (k := 29) C xg_Md_59 hw29 (by decide) rfl d_Md_countHoles_43 ?_
        refine xr_iload C d_Md_countHoles_46 hl4 ?_
        refine xj_iald (k := 46) C (i) (by omega) hw46 (by decide) (by omega) (by decide) d_Md_countHoles_48 ?_
        refine xr_eqz (y := (x : Int)) (hDN i x hx) ?_
        refine xj_iald (k := 30) C (x) (by omega) hw30 (by decide) (by omega) (by decide) d_Md_countHoles_49 ?_
        refine xr_sipush C d_Md_countHoles_50 (by decide) ?_
        refine xz_icmp_lt (tgt := 78) C d_Md_countHoles_53 (by decide) (by omega) (by omega) (fun c53 => ?_) (fun c53 => ?_)
        · skip
          refine xr_iinc C d_Md_countHoles_78 (by decide) hl4 ?_
          refine xr_goto (tgt := 32) C d_Md_countHoles_81 (by decide) ?_
          first
            | exact ih (i + 1) _ f g _ (by omega) (by omega) hw50 hw46 hw47 (fun h hh => by rw [cU_succ hx, if_neg (by omega), Int.add_zero]; exact hcu h hh) hDN hfr hl0 hl2 hl3 rfl
            | exact ih (i + 1) _ _ g _ (by omega) (by omega) rfl hw46 hw47 (fun h hh => by
                rw [cU_succ hx]
                by_cases e : h = (sg x - 200).toNat
                · rw [if_pos (by omega), e, va_eq, ← hcu _ (by omega)]
                · rw [if_neg (by omega), va_ne e, hcu h hh, Int.add_zero]) hDN (fun k a b c => (va_ne c).trans (hfr k a b c)) hl0 hl2 hl3 rfl
        · skip
          refine xr_aload_n C 2 d_Md_countHoles_56 rfl hl2 ?_
          refine xr_aload_n C 0 d_Md_countHoles_57 rfl hl0 ?_
          refine xr_get (k := 29) C xg_Md_7 hw29 (by decide) rfl d_Md_countHoles_58 ?_
          refine xr_aload_n C 0 d_Md_countHoles_61 rfl hl0 ?_
          refine xr_get (k := 29) C xg_Md_59 hw29 (by decide) rfl d_Md_countHoles_62 ?_
          refine xr_iload C d_Md_countHoles_65 hl4 ?_
          refine xj_iald (k := 46) C (i) (by omega) hw46 (by decide) (by omega) (by decide) d_Md_countHoles_67 ?_
          refine xr_eqz (y := (x : Int)) (hDN i x hx) ?_
          refine xj_iald (k := 30) C (x) (by omega) hw30 (by decide) (by omega) (by decide) d_Md_countHoles_68 ?_
          refine xr_sipush C d_Md_countHoles_69 (by decide) ?_
          refine xz_isub C d_Md_countHoles_72 ?_
          refine xr_eqz (y := (((sg x - 200).toNat : Nat) : Int)) (by omega) ?_
          refine xr_dup2 C rfl rfl d_Md_countHoles_73 ?_
          refine xj_iald (k := 50) C ((sg x - 200).toNat) (by omega) hw50 (by decide) (by omega) (by decide) d_Md_countHoles_74 ?_
          refine xr_iconst C d_Md_countHoles_75 ?_
          refine xz_iadd C d_Md_countHoles_76 ?_
          refine xj_iast (k := 50) C ((sg x - 200).toNat) (by omega) hw50 (by decide) (by omega) (by decide) d_Md_countHoles_77 ?_
          refine xr_iinc C d_Md_countHoles_78 (by decide) hl4 ?_
          refine xr_goto (tgt := 32) C d_Md_countHoles_81 (by decide) ?_
          first
            | exact ih (i + 1) _ f g _ (by omega) (by omega) hw50 hw46 hw47 (fun h hh => by rw [cU_succ hx, if_neg (by omega), Int.add_zero]; exact hcu h hh) hDN hfr hl0 hl2 hl3 rfl
            | exact ih (i + 1) _ _ g _ (by omega) (by omega) rfl hw46 hw47 (fun h hh => by
                rw [cU_succ hx]
                by_cases e : h = (sg x - 200).toNat
                · rw [if_pos (by omega), e, va_eq, ← hcu _ (by omega)]
                · rw [if_neg (by omega), va_ne e, hcu h hh, Int.add_zero]) hDN (fun k a b c => (va_ne c).trans (hfr k a b c)) hl0 hl2 hl3 rfl
  have lp1 : ∀ (k i : Nat) (w1 : Nat → va_E) (f : Nat → Int) (lv : Nat → Option Value), 7 ≤ i + k → i ≤ 6 → w1 50 = xIA (cA 0) 6 f → (∀ h, h < i → f h = 0) → (∀ k, k ≠ 50 → w1 k = w k) → lv 0 = some (.ref (ad 29)) → lv 1 = some (.int (zI (t : Int))) → lv 2 = some (.ref (ad 50)) → lv 3 = some (.int (zI (i : Int))) → XW G 56 ad w1 0 0 2 lv [] := by
    intro k
    induction k with
    | zero => intro i w1 f lv h1 h2; exact absurd h1 (by omega)
    | succ k ih =>
      intro i w1 f lv h1 h2 hw50 hf0 hfr hl0 hl1 hl2 hl3
      have hw29 := (hfr 29 (by decide)).trans hw29
      have hw46 := (hfr 46 (by decide)).trans hw46
      have hw47 := (hfr 47 (by decide)).trans hw47
      refine xr_iload_n C 3 d_Md_countHoles_2 rfl hl3 ?_
      refine xr_bipush C d_Md_countHoles_3 (by decide) ?_
      refine xz_icmp_ge (tgt := 18) C d_Md_countHoles_5 (by decide) (by omega) (by omega) (fun c5 => ?_) (fun c5 => ?_)
      · skip
        refine xr_aload_n C 0 d_Md_countHoles_18 rfl hl0 ?_
        refine xr_iload_n C 1 d_Md_countHoles_19 rfl hl1 ?_
        refine xr_aload_n C 0 d_Md_countHoles_20 rfl hl0 ?_
        refine xr_get (k := 29) C xg_Md_59 hw29 (by decide) rfl d_Md_countHoles_21 ?_
        refine xr_iconst C d_Md_countHoles_24 ?_
        show XW _ _ _ _ _ _ _ _ (.int (zI (xb false)) :: _)
        refine xr_callV (k9 := 29) C (m_Md_lay_46 (w := w1) (t := t) (mt_fr hMT (fun k a b => hfr k (by omega))) hT ht hw47 hw46) xm_Md_117 x2_Md_lay hw29 (by decide) rfl (by decide) (by decide) (Nat.le_of_ble_eq_true rfl) rfl d_Md_countHoles_25 (fun En n9 ad9 w9 hx9 => hx9.elim) (fun v n9 ad9 w9 hp => ?_)
        obtain ⟨rfl, rfl, z, rfl, rfl, td, g9, hw47', hw46', hfr', hDN⟩ := hp
        show XW _ _ _ _ _ _ 28 _ (_ :: _)
        refine xr_istore_n C 3 d_Md_countHoles_28 rfl (by decide) ?_
        refine xr_iconst C d_Md_countHoles_29 ?_
        refine xr_istore C d_Md_countHoles_30 (by decide) ?_
        exact lp2 ((lyS S t).length + 1) 0 _ f g9 _ (by omega) (by omega) ((hfr' 50 (by decide) (by decide)).trans hw50) hw46' ⟨td, hw47'⟩ (fun h hh => by rw [hf0 h (by omega)]; rfl) hDN (fun k a b c => (hfr' k b a).trans (hfr k c)) hl0 hl2 rfl rfl
      · skip
        refine xr_aload_n C 2 d_Md_countHoles_8 rfl hl2 ?_
        refine xr_iload_n C 3 d_Md_countHoles_9 rfl hl3 ?_
        refine xr_iconst C d_Md_countHoles_10 ?_
        refine xj_iast (k := 50) C (i) (by omega) hw50 (by decide) (by omega) (by decide) d_Md_countHoles_11 ?_
        refine xr_iinc C d_Md_countHoles_12 (by decide) hl3 ?_
        refine xr_goto (tgt := 2) C d_Md_countHoles_15 (by decide) ?_
        exact ih (i + 1) _ _ _ (by omega) (by omega) rfl (fun h hh => by
          by_cases e : h = i
          · rw [e, va_eq]
          · rw [va_ne e]; exact hf0 h (by omega)) (fun k a => (va_ne a).trans (hfr k a)) hl0 hl1 hl2 rfl
  refine xr_iconst C d_Md_countHoles_0 ?_
  refine xr_istore_n C 3 d_Md_countHoles_1 rfl (by decide) ?_
  exact lp1 7 0 _ g50 _ (by omega) (by omega) hw50 (fun h hh => by omega) (fun k _ => rfl) rfl rfl rfl rfl
set_option maxHeartbeats 4000000 in
set_option maxRecDepth 100000 in
theorem m_Md_countHoles_51 {L : Launch} {D : va_G} {cA : Nat → ClassId} {base : Nat} {ad : Nat → Nat} {w : Nat → va_E} {S : xS} {ru ro sp nr ns th : Int} {se fa so : Bool} (hMT : MT ad cA w S ru ro sp nr ns th se fa so) (hT : Tb S) {t : Nat} (ht : t < sN S) (hSA : SA cA w) : XM L D cA base y_Md_countHoles c_Md_countHoles 5 none (xrm 2 0 0) [.ref (ad 29), .int (zI (t : Int)), .ref (ad 51)] 56 ad w (xVoid 56 ad (fun w' => ∃ f g : Nat → Int, w' 51 = xIA (cA 0) 6 f ∧ (∀ h, h < 6 → f h = cnt S t h) ∧ w' 46 = xIA (cA 0) 1001 g ∧ (∃ g, w' 47 = xIA (cA 0) 1100 g) ∧ (∀ k, k ≠ 46 → k ≠ 47 → k ≠ 51 → w' k = w k))) xF := by
  refine xm_of (by decide +kernel) (by simp [Value.category]) (Nat.le_of_ble_eq_true rfl) (fun G C E _ => ?_)
  have hMT := hMT
  obtain ⟨sg, fs, sn, wt, pl, dp, ho, hw29, hw30, hw31, hw32, hw33, hw34, hw35, hw36, hA⟩ := id hMT
  obtain ⟨⟨g6, hw46⟩, ⟨g7, hw47⟩, ⟨g50, hw50⟩, ⟨g51, hw51⟩⟩ := hSA
  have hlen : ((lyS S t).length : Int) = sPl S t := ly_len hT t ht
  have hpl := (hT.2.1 t ht).2.2.2.2.2
  have hN := hT.1
  have lp2 : ∀ (k i : Nat) (w2 : Nat → va_E) (f g : Nat → Int) (lv : Nat → Option Value), (lyS S t).length + 1 ≤ i + k → i ≤ (lyS S t).length → w2 51 = xIA (cA 0) 6 f → w2 46 = xIA (cA 0) 1001 g → (∃ g, w2 47 = xIA (cA 0) 1100 g) → (∀ h, h < 6 → f h = cU S (lyS S t) i h) → DN g (lyS S t) → (∀ k, k ≠ 46 → k ≠ 47 → k ≠ 51 → w2 k = w k) → lv 0 = some (.ref (ad 29)) → lv 2 = some (.ref (ad 51)) → lv 3 = some (.int (zI ((lyS S t).length : Int))) → lv 4 = some (.int (zI (i : Int))) → XW G 56 ad w2 0 0 32 lv [] := by
    intro k
    induction k with
    | zero => intro i w2 f g lv h1 h2; exact absurd h1 (by omega)
    | succ k ih =>
      intro i w2 f g lv h1 h2 hw51 hw46 hw47 hcu hDN hfr hl0 hl2 hl3 hl4
      have hw29 := (hfr 29 (by decide) (by decide) (by decide)).trans hw29
      have hw30 := (hfr 30 (by decide) (by decide) (by decide)).trans hw30
      refine xr_iload C d_Md_countHoles_32 hl4 ?_
      refine xr_iload_n C 3 d_Md_countHoles_34 rfl hl3 ?_
      refine xz_icmp_ge (tgt := 84) C d_Md_countHoles_35 (by decide) (by omega) (by omega) (fun c35 => ?_) (fun c35 => ?_)
      · skip
        exact xr_vret C E ⟨rfl, rfl, rfl, f, g, hw51, fun h hh => by rw [hcu h hh, show i = (lyS S t).length by omega]; unfold cU cnt; rw [List.take_length], hw46, hw47, hfr⟩ (by decide) (by decide) d_Md_countHoles_84
      · skip
        have hx9 : i < (lyS S t).length := by omega
        obtain ⟨x, hx⟩ : ∃ x, (lyS S t)[i]? = some x := ⟨_, List.getElem?_eq_getElem hx9⟩
        have hxN := ly_mem hT ht hx
        have q1 := (hA.1 x hxN).1
        have qs := (hT.2.1 x hxN).1
        have hsr : 0 ≤ sg x ∧ sg x ≤ 205 := by unfold shp at qs; omega
        refine xr_aload_n C 0 d_Md_countHoles_38 rfl hl0 ?_
        refine xr_get (k := 29) C xg_Md_7 hw29 (by decide) rfl d_Md_countHoles_39 ?_
        refine xr_aload_n C 0 d_Md_countHoles_42 rfl hl0 ?_
        refine xr_get (k := 29) C xg_Md_59 hw29 (by decide) rfl d_Md_countHoles_43 ?_
        refine xr_iload C d_Md_countHoles_46 hl4 ?_
        refine xj_iald (k := 46) C (i) (by omega) hw46 (by decide) (by omega) (by decide) d_Md_countHoles_48 ?_
        refine xr_eqz (y := (x : Int)) (hDN i x hx) ?_
        refine xj_iald (k := 30) C (x) (by omega) hw30 (by decide) (by omega) (by decide) d_Md_countHoles_49 ?_
        refine xr_sipush C d_Md_countHoles_50 (by decide) ?_
        refine xz_icmp_lt (tgt := 78) C d_Md_countHoles_53 (by decide) (by omega) (by omega) (fun c53 => ?_) (fun c53 => ?_)
        · skip
          refine xr_iinc C d_Md_countHoles_78 (by decide) hl4 ?_
          refine xr_goto (tgt := 32) C d_Md_countHoles_81 (by decide) ?_
          first
            | exact ih (i + 1) _ f g _ (by omega) (by omega) hw51 hw46 hw47 (fun h hh => by rw [cU_succ hx, if_neg (by omega), Int.add_zero]; exact hcu h hh) hDN hfr hl0 hl2 hl3 rfl
            | exact ih (i + 1) _ _ g _ (by omega) (by omega) rfl hw46 hw47 (fun h hh => by
                rw [cU_succ hx]
                by_cases e : h = (sg x - 200).toNat
                · rw [if_pos (by omega), e, va_eq, ← hcu _ (by omega)]
                · rw [if_neg (by omega), va_ne e, hcu h hh, Int.add_zero]) hDN (fun k a b c => (va_ne c).trans (hfr k a b c)) hl0 hl2 hl3 rfl
        · skip
          refine xr_aload_n C 2 d_Md_countHoles_56 rfl hl2 ?_
          refine xr_aload_n C 0 d_Md_countHoles_57 rfl hl0 ?_
          refine xr_get (k := 29) C xg_Md_7 hw29 (by decide) rfl d_Md_countHoles_58 ?_
          refine xr_aload_n C 0 d_Md_countHoles_61 rfl hl0 ?_
          refine xr_get (k := 29) C xg_Md_59 hw29 (by decide) rfl d_Md_countHoles_62 ?_
          refine xr_iload C d_Md_countHoles_65 hl4 ?_
          refine xj_iald (k := 46) C (i) (by omega) hw46 (by decide) (by omega) (by decide) d_Md_countHoles_67 ?_
          refine xr_eqz (y := (x : Int)) (hDN i x hx) ?_
          refine xj_iald (k := 30) C (x) (by omega) hw30 (by decide) (by omega) (by decide) d_Md_countHoles_68 ?_
          refine xr_sipush C d_Md_countHoles_69 (by decide) ?_
          refine xz_isub C d_Md_countHoles_72 ?_
          refine xr_eqz (y := (((sg x - 200).toNat : Nat) : Int)) (by omega) ?_
          refine xr_dup2 C rfl rfl d_Md_countHoles_73 ?_
          refine xj_iald (k := 51) C ((sg x - 200).toNat) (by omega) hw51 (by decide) (by omega) (by decide) d_Md_countHoles_74 ?_
          refine xr_iconst C d_Md_countHoles_75 ?_
          refine xz_iadd C d_Md_countHoles_76 ?_
          refine xj_iast (k := 51) C ((sg x - 200).toNat) (by omega) hw51 (by decide) (by omega) (by decide) d_Md_countHoles_77 ?_
          refine xr_iinc C d_Md_countHoles_78 (by decide) hl4 ?_
          refine xr_goto (tgt := 32) C d_Md_countHoles_81 (by decide) ?_
          first
            | exact ih (i + 1) _ f g _ (by omega) (by omega) hw51 hw46 hw47 (fun h hh => by rw [cU_succ hx, if_neg (by omega), Int.add_zero]; exact hcu h hh) hDN hfr hl0 hl2 hl3 rfl
            | exact ih (i + 1) _ _ g _ (by omega) (by omega) rfl hw46 hw47 (fun h hh => by
                rw [cU_succ hx]
                by_cases e : h = (sg x - 200).toNat
                · rw [if_pos (by omega), e, va_eq, ← hcu _ (by omega)]
                · rw [if_neg (by omega), va_ne e, hcu h hh, Int.add_zero]) hDN (fun k a b c => (va_ne c).trans (hfr k a b c)) hl0 hl2 hl3 rfl
  have lp1 : ∀ (k i : Nat) (w1 : Nat → va_E) (f : Nat → Int) (lv : Nat → Option Value), 7 ≤ i + k → i ≤ 6 → w1 51 = xIA (cA 0) 6 f → (∀ h, h < i → f h = 0) → (∀ k, k ≠ 51 → w1 k = w k) → lv 0 = some (.ref (ad 29)) → lv 1 = some (.int (zI (t : Int))) → lv 2 = some (.ref (ad 51)) → lv 3 = some (.int (zI (i : Int))) → XW G 56 ad w1 0 0 2 lv [] := by
    intro k
    induction k with
    | zero => intro i w1 f lv h1 h2; exact absurd h1 (by omega)
    | succ k ih =>
      intro i w1 f lv h1 h2 hw51 hf0 hfr hl0 hl1 hl2 hl3
      have hw29 := (hfr 29 (by decide)).trans hw29
      have hw46 := (hfr 46 (by decide)).trans hw46
      have hw47 := (hfr 47 (by decide)).trans hw47
      refine xr_iload_n C 3 d_Md_countHoles_2 rfl hl3 ?_
      refine xr_bipush C d_Md_countHoles_3 (by decide) ?_
      refine xz_icmp_ge (tgt := 18) C d_Md_countHoles_5 (by decide) (by omega) (by omega) (fun c5 => ?_) (fun c5 => ?_)
      · skip
        refine xr_aload_n C 0 d_Md_countHoles_18 rfl hl0 ?_
        refine xr_iload_n C 1 d_Md_countHoles_19 rfl hl1 ?_
        refine xr_aload_n C 0 d_Md_countHoles_20 rfl hl0 ?_
        refine xr_get (k := 29) C xg_Md_59 hw29 (by decide) rfl d_Md_countHoles_21 ?_
        refine xr_iconst C d_Md_countHoles_24 ?_
        show XW _ _ _ _ _ _ _ _ (.int (zI (xb false)) :: _)
        refine xr_callV (k9 := 29) C (m_Md_lay_46 (w := w1) (t := t) (mt_fr hMT (fun k a b => hfr k (by omega))) hT ht hw47 hw46) xm_Md_117 x2_Md_lay hw29 (by decide) rfl (by decide) (by decide) (Nat.le_of_ble_eq_true rfl) rfl d_Md_countHoles_25 (fun En n9 ad9 w9 hx9 => hx9.elim) (fun v n9 ad9 w9 hp => ?_)
        obtain ⟨rfl, rfl, z, rfl, rfl, td, g9, hw47', hw46', hfr', hDN⟩ := hp
        show XW _ _ _ _ _ _ 28 _ (_ :: _)
        refine xr_istore_n C 3 d_Md_countHoles_28 rfl (by decide) ?_
        refine xr_iconst C d_Md_countHoles_29 ?_
        refine xr_istore C d_Md_countHoles_30 (by decide) ?_
        exact lp2 ((lyS S t).length + 1) 0 _ f g9 _ (by omega) (by omega) ((hfr' 51 (by decide) (by decide)).trans hw51) hw46' ⟨td, hw47'⟩ (fun h hh => by rw [hf0 h (by omega)]; rfl) hDN (fun k a b c => (hfr' k b a).trans (hfr k c)) hl0 hl2 rfl rfl
      · skip
        refine xr_aload_n C 2 d_Md_countHoles_8 rfl hl2 ?_
        refine xr_iload_n C 3 d_Md_countHoles_9 rfl hl3 ?_
        refine xr_iconst C d_Md_countHoles_10 ?_
        refine xj_iast (k := 51) C (i) (by omega) hw51 (by decide) (by omega) (by decide) d_Md_countHoles_11 ?_
        refine xr_iinc C d_Md_countHoles_12 (by decide) hl3 ?_
        refine xr_goto (tgt := 2) C d_Md_countHoles_15 (by decide) ?_
        exact ih (i + 1) _ _ _ (by omega) (by omega) rfl (fun h hh => by
          by_cases e : h = i
          · rw [e, va_eq]
          · rw [va_ne e]; exact hf0 h (by omega)) (fun k a => (va_ne a).trans (hfr k a)) hl0 hl1 hl2 rfl
  refine xr_iconst C d_Md_countHoles_0 ?_
  refine xr_istore_n C 3 d_Md_countHoles_1 rfl (by decide) ?_
  exact lp1 7 0 _ g51 _ (by omega) (by omega) hw51 (fun h hh => by omega) (fun k _ => rfl) rfl rfl rfl rfl
theorem hoS_t {S : xS} {x y : Nat} (h : ∀ i, i < 6 → cnt S y i ≤ cnt S x i) : hoS S x y = true := by
  simp [hoS, List.all_eq_true]
  exact h
theorem hoS_of {S : xS} {x y : Nat} (h : hoS S x y = true) : ∀ i, i < 6 → cnt S y i ≤ cnt S x i := by
  simp [hoS, List.all_eq_true] at h
  exact h
theorem hoS_f {S : xS} {x y i : Nat} (hi : i < 6) (h : cnt S x i < cnt S y i) : hoS S x y = false := by
  cases e : hoS S x y with
  | false => rfl
  | true => exact absurd (hoS_of e i hi) (by omega)
set_option maxHeartbeats 4000000 in
set_option maxRecDepth 100000 in
theorem m_Md_holesAllow {L : Launch} {D : va_G} {cA : Nat → ClassId} {base : Nat} {ad : Nat → Nat} {w : Nat → va_E} {S : xS} {ru ro sp nr ns th : Int} {se fa so : Bool} (hMT : MT ad cA w S ru ro sp nr ns th se fa so) (hT : Tb S) {x y : Nat} (hx : x < sN S) (hy : y < sN S) (hSA : SA cA w) : XM L D cA base y_Md_holesAllow c_Md_holesAllow 4 (some .boolean) (xrm 3 0 0) [.ref (ad 29), .int (zI (x : Int)), .int (zI (y : Int))] 56 ad w (xRet 56 ad (fun z w' => z = xb (hoS S x y) ∧ SA cA w' ∧ (∀ k, k ≠ 46 → k ≠ 47 → k ≠ 50 → k ≠ 51 → w' k = w k))) xF := by
  refine xm_of (by decide +kernel) (by simp [Value.category]) (Nat.le_of_ble_eq_true rfl) (fun G C E _ => ?_)
  obtain ⟨sg, fs, sn, wt, pl, dp, ho, hw29, hw30, hw31, hw32, hw33, hw34, hw35, hw36, hA⟩ := id hMT
  obtain ⟨⟨g6, hw46⟩, ⟨g7, hw47⟩, ⟨g50, hw50⟩, ⟨g51, hw51⟩⟩ := id hSA
  have lp : ∀ (k i : Nat) (w2 : Nat → va_E) (f g : Nat → Int) (lv : Nat → Option Value), 7 ≤ i + k → i ≤ 6 → w2 50 = xIA (cA 0) 6 f → w2 51 = xIA (cA 0) 6 g → (∀ h, h < 6 → f h = cnt S x h) → (∀ h, h < 6 → g h = cnt S y h) → (∃ g, w2 46 = xIA (cA 0) 1001 g) → (∃ g, w2 47 = xIA (cA 0) 1100 g) → (∀ k, k ≠ 46 → k ≠ 47 → k ≠ 50 → k ≠ 51 → w2 k = w k) → (∀ h, h < i → cnt S y h ≤ cnt S x h) → lv 0 = some (.ref (ad 29)) → lv 3 = some (.int (zI (i : Int))) → XW G 56 ad w2 0 0 20 lv [] := by
    intro k
    induction k with
    | zero => intro i w2 f g lv h1 h2; exact absurd h1 (by omega)
    | succ k ih =>
      intro i w2 f g lv h1 h2 hw50 hw51 hf hg hw46 hw47 hfr hh hl0 hl3
      have hw29 := (hfr 29 (by decide) (by decide) (by decide) (by decide)).trans hw29
      refine xr_iload_n C 3 d_Md_holesAllow_20 rfl hl3 ?_
      refine xr_bipush C d_Md_holesAllow_21 (by decide) ?_
      refine xz_icmp_ge (tgt := 49) C d_Md_holesAllow_23 (by decide) (by omega) (by omega) (fun c23 => ?_) (fun c23 => ?_)
      · skip
        refine xr_iconst C d_Md_holesAllow_49 ?_
        exact xr_zret C E (by omega) ⟨rfl, rfl, _, rfl, by rw [hoS_t (fun h a => hh h (by omega))]; rfl, ⟨hw46, hw47, ⟨f, hw50⟩, ⟨g, hw51⟩⟩, hfr⟩ (by decide) (by decide) d_Md_holesAllow_50
      · skip
        have fi := hf i (by omega)
        have gi := hg i (by omega)
        have cx := cnt_in hT hx i
        have cy := cnt_in hT hy i
        refine xr_aload_n C 0 d_Md_holesAllow_26 rfl hl0 ?_
        refine xr_get (k := 29) C xg_Md_71 hw29 (by decide) rfl d_Md_holesAllow_27 ?_
        refine xr_iload_n C 3 d_Md_holesAllow_30 rfl hl3 ?_
        refine xj_iald (k := 50) C (i) (by omega) hw50 (by decide) (by omega) (by decide) d_Md_holesAllow_31 ?_
        refine xr_aload_n C 0 d_Md_holesAllow_32 rfl hl0 ?_
        refine xr_get (k := 29) C xg_Md_74 hw29 (by decide) rfl d_Md_holesAllow_33 ?_
        refine xr_iload_n C 3 d_Md_holesAllow_36 rfl hl3 ?_
        refine xj_iald (k := 51) C (i) (by omega) hw51 (by decide) (by omega) (by decide) d_Md_holesAllow_37 ?_
        refine xz_icmp_ge (tgt := 43) C d_Md_holesAllow_38 (by decide) (by omega) (by omega) (fun c38 => ?_) (fun c38 => ?_)
        · skip
          refine xr_iinc C d_Md_holesAllow_43 (by decide) hl3 ?_
          refine xr_goto (tgt := 20) C d_Md_holesAllow_46 (by decide) ?_
          exact ih (i + 1) _ f g _ (by omega) (by omega) hw50 hw51 hf hg hw46 hw47 hfr (fun h a => by
            by_cases e : h = i
            · rw [e]; omega
            · exact hh h (by omega)) hl0 rfl
        · skip
          refine xr_iconst C d_Md_holesAllow_41 ?_
          exact xr_zret C E (by omega) ⟨rfl, rfl, _, rfl, by rw [hoS_f (i := i) (by omega) (by omega)]; rfl, ⟨hw46, hw47, ⟨f, hw50⟩, ⟨g, hw51⟩⟩, hfr⟩ (by decide) (by decide) d_Md_holesAllow_42
  refine xr_aload_n C 0 d_Md_holesAllow_0 rfl rfl ?_
  refine xr_iload_n C 1 d_Md_holesAllow_1 rfl rfl ?_
  refine xr_aload_n C 0 d_Md_holesAllow_2 rfl rfl ?_
  refine xr_get (k := 29) C xg_Md_71 hw29 (by decide) rfl d_Md_holesAllow_3 ?_
  refine xr_callV (k9 := 29) C (m_Md_countHoles_50 (t := x) hMT hT hx hSA) xm_Md_121 x2_Md_countHoles hw29 (by decide) rfl (by decide) (by decide) (Nat.le_of_ble_eq_true rfl) rfl d_Md_holesAllow_6 (fun En n9 ad9 w9 hx9 => hx9.elim) (fun v n9 ad9 w9 hp => ?_)
  obtain ⟨rfl, rfl, rfl, f, g6', hw50', hf, hw46', ⟨g7', hw47'⟩, hfr1⟩ := hp
  have hw29 := (hfr1 29 (by decide) (by decide) (by decide)).trans hw29
  have hw51' := (hfr1 51 (by decide) (by decide) (by decide)).trans hw51
  refine xr_aload_n C 0 d_Md_holesAllow_9 rfl rfl ?_
  refine xr_iload_n C 2 d_Md_holesAllow_10 rfl rfl ?_
  refine xr_aload_n C 0 d_Md_holesAllow_11 rfl rfl ?_
  refine xr_get (k := 29) C xg_Md_74 hw29 (by decide) rfl d_Md_holesAllow_12 ?_
  refine xr_callV (k9 := 29) C (m_Md_countHoles_51 (t := y) (mt_fr hMT (fun k a b => hfr1 k (by omega) (by omega) (by omega))) hT hy ⟨⟨_, hw46'⟩, ⟨_, hw47'⟩, ⟨_, hw50'⟩, ⟨_, hw51'⟩⟩) xm_Md_121 x2_Md_countHoles hw29 (by decide) rfl (by decide) (by decide) (Nat.le_of_ble_eq_true rfl) rfl d_Md_holesAllow_15 (fun En n9 ad9 w9 hx9 => hx9.elim) (fun v n9 ad9 w9 hp => ?_)
  obtain ⟨rfl, rfl, rfl, g, g6'', hw51'', hg, hw46'', ⟨g7'', hw47''⟩, hfr2⟩ := hp
  have hw29 := (hfr2 29 (by decide) (by decide) (by decide)).trans hw29
  refine xr_iconst C d_Md_holesAllow_18 ?_
  refine xr_istore_n C 3 d_Md_holesAllow_19 rfl (by decide) ?_
  exact lp 7 0 _ f g _ (by omega) (by omega) ((hfr2 50 (by decide) (by decide) (by decide)).trans hw50') hw51'' hf hg ⟨_, hw46''⟩ ⟨_, hw47''⟩ (fun k a b c d => (hfr2 k a b d).trans (hfr1 k a b c)) (fun h a => by omega) rfl rfl
theorem xb_z {p : Prop} [Decidable p] {z : Int} (h : (p ∧ z = 1) ∨ (¬ p ∧ z = 0)) : z = xb (decide p) := by
  rcases h with ⟨h, rfl⟩ | ⟨h, rfl⟩
  · rw [decide_eq_true h]; rfl
  · rw [decide_eq_false h]; rfl
set_option maxHeartbeats 4000000 in
set_option maxRecDepth 100000 in
theorem m_Md_isAbove {L : Launch} {D : va_G} {cA : Nat → ClassId} {base : Nat} {ad : Nat → Nat} {w : Nat → va_E} {S : xS} {ru ro sp nr ns th : Int} {se fa so : Bool} (hMT : MT ad cA w S ru ro sp nr ns th se fa so) (hT : Tb S) {x0 y0 : Nat} (hx : x0 < sN S) (hy : y0 < sN S) (hSA : SA cA w) : XM L D cA base y_Md_isAbove c_Md_isAbove 9 (some .boolean) (xrm 4 0 0) [.ref (ad 29), .int (zI (x0 : Int)), .int (zI (y0 : Int))] 56 ad w (xRet 56 ad (fun z w' => z = xb (abv S x0 y0) ∧ SA cA w' ∧ (∀ k, k ≠ 46 → k ≠ 47 → k ≠ 50 → k ≠ 51 → w' k = w k))) xF := by
  refine xm_of (by decide +kernel) (by simp [Value.category]) (Nat.le_of_ble_eq_true rfl) (fun G C E _ => ?_)
  obtain ⟨sg, fs, sn, wt, pl, dp, ho, hw29, hw30, hw31, hw32, hw33, hw34, hw35, hw36, hA⟩ := id hMT
  have hN := hT.1
  have lp : ∀ (k x y : Nat) (w1 : Nat → va_E) (lv : Nat → Option Value), x < k → x < sN S → y < sN S → SA cA w1 → (∀ k, k ≠ 46 → k ≠ 47 → k ≠ 50 → k ≠ 51 → w1 k = w k) → abv S x y = abv S x0 y0 → lv 0 = some (.ref (ad 29)) → lv 3 = some (.int (zI (x : Int))) → lv 4 = some (.int (zI (y : Int))) → XW G 56 ad w1 0 0 5 lv [] := by
    intro k
    induction k with
    | zero => intro x y w1 lv h1; exact absurd h1 (by omega)
    | succ k ih =>
      intro x y w1 lv h1 h2 h2y hSA hfr hEq hl0 hl3 hl4
      have hw29 := (hfr 29 (by decide) (by decide) (by decide) (by decide)).trans hw29
      have hw30 := (hfr 30 (by decide) (by decide) (by decide) (by decide)).trans hw30
      have hw31 := (hfr 31 (by decide) (by decide) (by decide) (by decide)).trans hw31
      have hw32 := (hfr 32 (by decide) (by decide) (by decide) (by decide)).trans hw32
      have hw33 := (hfr 33 (by decide) (by decide) (by decide) (by decide)).trans hw33
      obtain ⟨mx1, mx2, mx3, mx4, mx5, mx6, mx7⟩ := hA.1 x (by omega)
      obtain ⟨my1, my2, my3, my4, my5, my6, my7⟩ := hA.1 y (by omega)
      have rx := hA.2 x
      have ry := hA.2 y
      obtain ⟨sx, -, -, dx, -, bx⟩ := hT.2.1 x (by omega)
      obtain ⟨sy, -, -, dy, -, by9⟩ := hT.2.1 y (by omega)
      refine xr_iload_n C 3 d_Md_isAbove_5 rfl hl3 ?_
      refine xr_iload C d_Md_isAbove_6 hl4 ?_
      refine xz_icmp_eq (tgt := 278) C d_Md_isAbove_8 (by decide) (by omega) (by omega) (fun c8 => ?_) (fun c8 => ?_)
      · skip
        refine xr_iconst C d_Md_isAbove_278 ?_
        exact xr_zret C E (by omega) ⟨rfl, rfl, _, rfl, by first | (rw [← hEq, abv_same (by omega)]; rfl) | (rw [← hEq, abv_ho (by omega) ho9]; rfl), by first | exact hSA' | exact hSA, by first | exact hfr2 | exact hfr⟩ (by decide) (by decide) d_Md_isAbove_279
      · skip
        refine xr_aload_n C 0 d_Md_isAbove_11 rfl hl0 ?_
        refine xr_iload_n C 3 d_Md_isAbove_12 rfl hl3 ?_
        refine xr_iload C d_Md_isAbove_13 hl4 ?_
        refine xr_callV (k9 := 29) C (m_Md_holesAllow (w := w1) (mt_fr hMT (fun k a b => hfr k (by omega) (by omega) (by omega) (by omega))) hT (x := x) (y := y) (by omega) (by omega) hSA) xm_Md_125 x2_Md_holesAllow hw29 (by decide) rfl (by decide) (by decide) (Nat.le_of_ble_eq_true rfl) rfl d_Md_isAbove_15 (fun En n9 ad9 w9 hx9 => hx9.elim) (fun v n9 ad9 w9 hp => ?_)
        obtain ⟨rfl, rfl, z, rfl, rfl, hSA', hfr'⟩ := hp
        have hw29 := (hfr' 29 (by decide) (by decide) (by decide) (by decide)).trans hw29
        have hw30 := (hfr' 30 (by decide) (by decide) (by decide) (by decide)).trans hw30
        have hw31 := (hfr' 31 (by decide) (by decide) (by decide) (by decide)).trans hw31
        have hw32 := (hfr' 32 (by decide) (by decide) (by decide) (by decide)).trans hw32
        have hw33 := (hfr' 33 (by decide) (by decide) (by decide) (by decide)).trans hw33
        have hfr2 : ∀ k, k ≠ 46 → k ≠ 47 → k ≠ 50 → k ≠ 51 → w9 k = w k := fun k a b c d => (hfr' k a b c d).trans (hfr k a b c d)
        show XW _ _ _ _ _ _ 18 _ (_ :: _)
        refine xb_if_eq (tgt := 278) C d_Md_isAbove_18 (by decide)  (fun c18 => ?_) (fun c18 => ?_)
        · skip
          have ho9 : hoS S x y = false := c18
          refine xr_iconst C d_Md_isAbove_278 ?_
          exact xr_zret C E (by omega) ⟨rfl, rfl, _, rfl, by first | (rw [← hEq, abv_same (by omega)]; rfl) | (rw [← hEq, abv_ho (by omega) ho9]; rfl), by first | exact hSA' | exact hSA, by first | exact hfr2 | exact hfr⟩ (by decide) (by decide) d_Md_isAbove_279
        · skip
          have ho9 : hoS S x y = true := c18
          refine xr_aload_n C 0 d_Md_isAbove_21 rfl hl0 ?_
          refine xr_get (k := 29) C xg_Md_19 hw29 (by decide) rfl d_Md_isAbove_22 ?_
          refine xr_iload_n C 3 d_Md_isAbove_25 rfl hl3 ?_
          refine xj_iald (k := 33) C (x) (by omega) hw33 (by decide) (by omega) (by decide) d_Md_isAbove_26 ?_
          refine xr_aload_n C 0 d_Md_isAbove_27 rfl hl0 ?_
          refine xr_get (k := 29) C xg_Md_19 hw29 (by decide) rfl d_Md_isAbove_28 ?_
          refine xr_iload C d_Md_isAbove_31 hl4 ?_
          refine xj_iald (k := 33) C (y) (by omega) hw33 (by decide) (by omega) (by decide) d_Md_isAbove_33 ?_
          refine xz_icmp_eq (tgt := 59) C d_Md_isAbove_34 (by decide) (by omega) (by omega) (fun c34 => ?_) (fun c34 => ?_)
          · skip
            refine xr_aload_n C 0 d_Md_isAbove_59 rfl hl0 ?_
            refine xr_get (k := 29) C xg_Md_7 hw29 (by decide) rfl d_Md_isAbove_60 ?_
            refine xr_iload_n C 3 d_Md_isAbove_63 rfl hl3 ?_
            refine xj_iald (k := 30) C (x) (by omega) hw30 (by decide) (by omega) (by decide) d_Md_isAbove_64 ?_
            refine xr_bipush C d_Md_isAbove_65 (by decide) ?_
            refine xz_icmp_ge (tgt := 74) C d_Md_isAbove_67 (by decide) (by omega) (by omega) (fun c67 => ?_) (fun c67 => ?_)
            · skip
              refine xr_iconst C d_Md_isAbove_74 ?_
              refine xr_istore C d_Md_isAbove_75 (by decide) ?_
              refine xr_aload_n C 0 d_Md_isAbove_77 rfl hl0 ?_
              refine xr_get (k := 29) C xg_Md_7 hw29 (by decide) rfl d_Md_isAbove_78 ?_
              refine xr_iload C d_Md_isAbove_81 hl4 ?_
              refine xj_iald (k := 30) C (y) (by omega) hw30 (by decide) (by omega) (by decide) d_Md_isAbove_83 ?_
              refine xr_bipush C d_Md_isAbove_84 (by decide) ?_
              refine xz_icmp_ge (tgt := 93) C d_Md_isAbove_86 (by decide) (by omega) (by omega) (fun c86 => ?_) (fun c86 => ?_)
              · skip
                refine xr_iconst C d_Md_isAbove_93 ?_
                refine xr_istore C d_Md_isAbove_94 (by decide) ?_
                refine xr_aload_n C 0 d_Md_isAbove_96 rfl hl0 ?_
                refine xr_get (k := 29) C xg_Md_7 hw29 (by decide) rfl d_Md_isAbove_97 ?_
                refine xr_iload_n C 3 d_Md_isAbove_100 rfl hl3 ?_
                refine xj_iald (k := 30) C (x) (by omega) hw30 (by decide) (by omega) (by decide) d_Md_isAbove_101 ?_
                refine xr_sipush C d_Md_isAbove_102 (by decide) ?_
                refine xz_icmp_ge (tgt := 121) C d_Md_isAbove_105 (by decide) (by omega) (by omega) (fun c105 => ?_) (fun c105 => ?_)
                · skip
                  refine xr_iconst C d_Md_isAbove_121 ?_
                  exact xr_zret C E (by omega) ⟨rfl, rfl, _, rfl, by rw [← hEq, abv_hole (by omega) ho9 (by omega) (by omega)]; rfl, hSA', hfr2⟩ (by decide) (by decide) d_Md_isAbove_122
                · skip
                  refine xr_aload_n C 0 d_Md_isAbove_108 rfl hl0 ?_
                  refine xr_get (k := 29) C xg_Md_7 hw29 (by decide) rfl d_Md_isAbove_109 ?_
                  refine xr_iload C d_Md_isAbove_112 hl4 ?_
                  refine xj_iald (k := 30) C (y) (by omega) hw30 (by decide) (by omega) (by decide) d_Md_isAbove_114 ?_
                  refine xr_sipush C d_Md_isAbove_115 (by decide) ?_
                  refine xz_icmp_lt (tgt := 123) C d_Md_isAbove_118 (by decide) (by omega) (by omega) (fun c118 => ?_) (fun c118 => ?_)
                  · skip
                    refine xr_iload C d_Md_isAbove_123 rfl ?_
                    refine xz_if_eq (tgt := 133) C d_Md_isAbove_125 (by decide) (by omega) (fun c125 => ?_) (fun c125 => by exfalso; omega)
                    refine xr_iload C d_Md_isAbove_133 rfl ?_
                    refine xz_if_ne (tgt := 159) C d_Md_isAbove_135 (by decide) (by omega) (fun c135 => by exfalso; omega) (fun c135 => ?_)
                    refine xr_iload C d_Md_isAbove_138 rfl ?_
                    refine xz_if_ne (tgt := 163) C d_Md_isAbove_140 (by decide) (by omega) (fun c140 => by exfalso; omega) (fun c140 => ?_)
                    refine xr_aload_n C 0 d_Md_isAbove_143 rfl hl0 ?_
                    refine xr_get (k := 29) C xg_Md_7 hw29 (by decide) rfl d_Md_isAbove_144 ?_
                    refine xr_iload_n C 3 d_Md_isAbove_147 rfl hl3 ?_
                    refine xj_iald (k := 30) C (x) (by omega) hw30 (by decide) (by omega) (by decide) d_Md_isAbove_148 ?_
                    refine xr_aload_n C 0 d_Md_isAbove_149 rfl hl0 ?_
                    refine xr_get (k := 29) C xg_Md_7 hw29 (by decide) rfl d_Md_isAbove_150 ?_
                    refine xr_iload C d_Md_isAbove_153 hl4 ?_
                    refine xj_iald (k := 30) C (y) (by omega) hw30 (by decide) (by omega) (by decide) d_Md_isAbove_155 ?_
                    refine xz_icmp_le (tgt := 163) C d_Md_isAbove_156 (by decide) (by omega) (by omega) (fun c156 => ?_) (fun c156 => ?_)
                    · skip
                      refine xr_iconst C d_Md_isAbove_163 ?_
                      exact xr_zret C E (by omega) ⟨rfl, rfl, _, rfl, by rw [← hEq, abv_leaf (by omega) ho9 (by omega) (by omega) (by omega)]; exact xb_z (by unfold shp at sx sy; omega), hSA', hfr2⟩ (by decide) (by decide) d_Md_isAbove_164
                    · skip
                      refine xr_iconst C d_Md_isAbove_159 ?_
                      refine xr_goto (tgt := 164) C d_Md_isAbove_160 (by decide) ?_
                      exact xr_zret C E (by omega) ⟨rfl, rfl, _, rfl, by rw [← hEq, abv_leaf (by omega) ho9 (by omega) (by omega) (by omega)]; exact xb_z (by unfold shp at sx sy; omega), hSA', hfr2⟩ (by decide) (by decide) d_Md_isAbove_164
                  · skip
                    refine xr_iconst C d_Md_isAbove_121 ?_
                    exact xr_zret C E (by omega) ⟨rfl, rfl, _, rfl, by rw [← hEq, abv_hole (by omega) ho9 (by omega) (by omega)]; rfl, hSA', hfr2⟩ (by decide) (by decide) d_Md_isAbove_122
              · skip
                refine xr_iconst C d_Md_isAbove_89 ?_
                refine xr_goto (tgt := 94) C d_Md_isAbove_90 (by decide) ?_
                refine xr_istore C d_Md_isAbove_94 (by decide) ?_
                refine xr_aload_n C 0 d_Md_isAbove_96 rfl hl0 ?_
                refine xr_get (k := 29) C xg_Md_7 hw29 (by decide) rfl d_Md_isAbove_97 ?_
                refine xr_iload_n C 3 d_Md_isAbove_100 rfl hl3 ?_
                refine xj_iald (k := 30) C (x) (by omega) hw30 (by decide) (by omega) (by decide) d_Md_isAbove_101 ?_
                refine xr_sipush C d_Md_isAbove_102 (by decide) ?_
                refine xz_icmp_ge (tgt := 121) C d_Md_isAbove_105 (by decide) (by omega) (by omega) (fun c105 => ?_) (fun c105 => ?_)
                · skip
                  refine xr_iconst C d_Md_isAbove_121 ?_
                  exact xr_zret C E (by omega) ⟨rfl, rfl, _, rfl, by rw [← hEq, abv_hole (by omega) ho9 (by omega) (by omega)]; rfl, hSA', hfr2⟩ (by decide) (by decide) d_Md_isAbove_122
                · skip
                  refine xr_aload_n C 0 d_Md_isAbove_108 rfl hl0 ?_
                  refine xr_get (k := 29) C xg_Md_7 hw29 (by decide) rfl d_Md_isAbove_109 ?_
                  refine xr_iload C d_Md_isAbove_112 hl4 ?_
                  refine xj_iald (k := 30) C (y) (by omega) hw30 (by decide) (by omega) (by decide) d_Md_isAbove_114 ?_
                  refine xr_sipush C d_Md_isAbove_115 (by decide) ?_
                  refine xz_icmp_lt (tgt := 123) C d_Md_isAbove_118 (by decide) (by omega) (by omega) (fun c118 => ?_) (fun c118 => ?_)
                  · skip
                    refine xr_iload C d_Md_isAbove_123 rfl ?_
                    refine xz_if_eq (tgt := 133) C d_Md_isAbove_125 (by decide) (by omega) (fun c125 => ?_) (fun c125 => by exfalso; omega)
                    refine xr_iload C d_Md_isAbove_133 rfl ?_
                    refine xz_if_ne (tgt := 159) C d_Md_isAbove_135 (by decide) (by omega) (fun c135 => by exfalso; omega) (fun c135 => ?_)
                    refine xr_iload C d_Md_isAbove_138 rfl ?_
                    refine xz_if_ne (tgt := 163) C d_Md_isAbove_140 (by decide) (by omega) (fun c140 => ?_) (fun c140 => by exfalso; omega)
                    refine xr_iconst C d_Md_isAbove_163 ?_
                    exact xr_zret C E (by omega) ⟨rfl, rfl, _, rfl, by rw [← hEq, abv_leaf (by omega) ho9 (by omega) (by omega) (by omega)]; exact xb_z (by unfold shp at sx sy; omega), hSA', hfr2⟩ (by decide) (by decide) d_Md_isAbove_164
                  · skip
                    refine xr_iconst C d_Md_isAbove_121 ?_
                    exact xr_zret C E (by omega) ⟨rfl, rfl, _, rfl, by rw [← hEq, abv_hole (by omega) ho9 (by omega) (by omega)]; rfl, hSA', hfr2⟩ (by decide) (by decide) d_Md_isAbove_122
            · skip
              refine xr_iconst C d_Md_isAbove_70 ?_
              refine xr_goto (tgt := 75) C d_Md_isAbove_71 (by decide) ?_
              refine xr_istore C d_Md_isAbove_75 (by decide) ?_
              refine xr_aload_n C 0 d_Md_isAbove_77 rfl hl0 ?_
              refine xr_get (k := 29) C xg_Md_7 hw29 (by decide) rfl d_Md_isAbove_78 ?_
              refine xr_iload C d_Md_isAbove_81 hl4 ?_
              refine xj_iald (k := 30) C (y) (by omega) hw30 (by decide) (by omega) (by decide) d_Md_isAbove_83 ?_
              refine xr_bipush C d_Md_isAbove_84 (by decide) ?_
              refine xz_icmp_ge (tgt := 93) C d_Md_isAbove_86 (by decide) (by omega) (by omega) (fun c86 => ?_) (fun c86 => ?_)
              · skip
                refine xr_iconst C d_Md_isAbove_93 ?_
                refine xr_istore C d_Md_isAbove_94 (by decide) ?_
                refine xr_aload_n C 0 d_Md_isAbove_96 rfl hl0 ?_
                refine xr_get (k := 29) C xg_Md_7 hw29 (by decide) rfl d_Md_isAbove_97 ?_
                refine xr_iload_n C 3 d_Md_isAbove_100 rfl hl3 ?_
                refine xj_iald (k := 30) C (x) (by omega) hw30 (by decide) (by omega) (by decide) d_Md_isAbove_101 ?_
                refine xr_sipush C d_Md_isAbove_102 (by decide) ?_
                refine xz_icmp_ge (tgt := 121) C d_Md_isAbove_105 (by decide) (by omega) (by omega) (fun c105 => ?_) (fun c105 => ?_)
                · skip
                  refine xr_iconst C d_Md_isAbove_121 ?_
                  exact xr_zret C E (by omega) ⟨rfl, rfl, _, rfl, by rw [← hEq, abv_hole (by omega) ho9 (by omega) (by omega)]; rfl, hSA', hfr2⟩ (by decide) (by decide) d_Md_isAbove_122
                · skip
                  refine xr_aload_n C 0 d_Md_isAbove_108 rfl hl0 ?_
                  refine xr_get (k := 29) C xg_Md_7 hw29 (by decide) rfl d_Md_isAbove_109 ?_
                  refine xr_iload C d_Md_isAbove_112 hl4 ?_
                  refine xj_iald (k := 30) C (y) (by omega) hw30 (by decide) (by omega) (by decide) d_Md_isAbove_114 ?_
                  refine xr_sipush C d_Md_isAbove_115 (by decide) ?_
                  refine xz_icmp_lt (tgt := 123) C d_Md_isAbove_118 (by decide) (by omega) (by omega) (fun c118 => ?_) (fun c118 => ?_)
                  · skip
                    refine xr_iload C d_Md_isAbove_123 rfl ?_
                    refine xz_if_eq (tgt := 133) C d_Md_isAbove_125 (by decide) (by omega) (fun c125 => by exfalso; omega) (fun c125 => ?_)
                    refine xr_iload C d_Md_isAbove_128 rfl ?_
                    refine xz_if_ne (tgt := 165) C d_Md_isAbove_130 (by decide) (by omega) (fun c130 => by exfalso; omega) (fun c130 => ?_)
                    refine xr_iload C d_Md_isAbove_133 rfl ?_
                    refine xz_if_ne (tgt := 159) C d_Md_isAbove_135 (by decide) (by omega) (fun c135 => ?_) (fun c135 => by exfalso; omega)
                    refine xr_iconst C d_Md_isAbove_159 ?_
                    refine xr_goto (tgt := 164) C d_Md_isAbove_160 (by decide) ?_
                    exact xr_zret C E (by omega) ⟨rfl, rfl, _, rfl, by rw [← hEq, abv_leaf (by omega) ho9 (by omega) (by omega) (by omega)]; exact xb_z (by unfold shp at sx sy; omega), hSA', hfr2⟩ (by decide) (by decide) d_Md_isAbove_164
                  · skip
                    refine xr_iconst C d_Md_isAbove_121 ?_
                    exact xr_zret C E (by omega) ⟨rfl, rfl, _, rfl, by rw [← hEq, abv_hole (by omega) ho9 (by omega) (by omega)]; rfl, hSA', hfr2⟩ (by decide) (by decide) d_Md_isAbove_122
              · skip
                refine xr_iconst C d_Md_isAbove_89 ?_
                refine xr_goto (tgt := 94) C d_Md_isAbove_90 (by decide) ?_
                refine xr_istore C d_Md_isAbove_94 (by decide) ?_
                refine xr_aload_n C 0 d_Md_isAbove_96 rfl hl0 ?_
                refine xr_get (k := 29) C xg_Md_7 hw29 (by decide) rfl d_Md_isAbove_97 ?_
                refine xr_iload_n C 3 d_Md_isAbove_100 rfl hl3 ?_
                refine xj_iald (k := 30) C (x) (by omega) hw30 (by decide) (by omega) (by decide) d_Md_isAbove_101 ?_
                refine xr_sipush C d_Md_isAbove_102 (by decide) ?_
                refine xz_icmp_ge (tgt := 121) C d_Md_isAbove_105 (by decide) (by omega) (by omega) (fun c105 => ?_) (fun c105 => ?_)
                · skip
                  refine xr_iconst C d_Md_isAbove_121 ?_
                  exact xr_zret C E (by omega) ⟨rfl, rfl, _, rfl, by rw [← hEq, abv_hole (by omega) ho9 (by omega) (by omega)]; rfl, hSA', hfr2⟩ (by decide) (by decide) d_Md_isAbove_122
                · skip
                  refine xr_aload_n C 0 d_Md_isAbove_108 rfl hl0 ?_
                  refine xr_get (k := 29) C xg_Md_7 hw29 (by decide) rfl d_Md_isAbove_109 ?_
                  refine xr_iload C d_Md_isAbove_112 hl4 ?_
                  refine xj_iald (k := 30) C (y) (by omega) hw30 (by decide) (by omega) (by decide) d_Md_isAbove_114 ?_
                  refine xr_sipush C d_Md_isAbove_115 (by decide) ?_
                  refine xz_icmp_lt (tgt := 123) C d_Md_isAbove_118 (by decide) (by omega) (by omega) (fun c118 => ?_) (fun c118 => ?_)
                  · skip
                    refine xr_iload C d_Md_isAbove_123 rfl ?_
                    refine xz_if_eq (tgt := 133) C d_Md_isAbove_125 (by decide) (by omega) (fun c125 => by exfalso; omega) (fun c125 => ?_)
                    refine xr_iload C d_Md_isAbove_128 rfl ?_
                    refine xz_if_ne (tgt := 165) C d_Md_isAbove_130 (by decide) (by omega) (fun c130 => ?_) (fun c130 => by exfalso; omega)
                    refine xr_aload_n C 0 d_Md_isAbove_165 rfl hl0 ?_
                    refine xr_get (k := 29) C xg_Md_7 hw29 (by decide) rfl d_Md_isAbove_166 ?_
                    refine xr_iload_n C 3 d_Md_isAbove_169 rfl hl3 ?_
                    refine xj_iald (k := 30) C (x) (by omega) hw30 (by decide) (by omega) (by decide) d_Md_isAbove_170 ?_
                    refine xr_aload_n C 0 d_Md_isAbove_171 rfl hl0 ?_
                    refine xr_get (k := 29) C xg_Md_7 hw29 (by decide) rfl d_Md_isAbove_172 ?_
                    refine xr_iload C d_Md_isAbove_175 hl4 ?_
                    refine xj_iald (k := 30) C (y) (by omega) hw30 (by decide) (by omega) (by decide) d_Md_isAbove_177 ?_
                    refine xz_icmp_eq (tgt := 203) C d_Md_isAbove_178 (by decide) (by omega) (by omega) (fun c178 => ?_) (fun c178 => ?_)
                    · skip
                      have hnx : sSg S x < 100 := by omega
                      have hny : sSg S y < 100 := by omega
                      refine xr_aload_n C 0 d_Md_isAbove_203 rfl hl0 ?_
                      refine xr_get (k := 29) C xg_Md_13 hw29 (by decide) rfl d_Md_isAbove_204 ?_
                      refine xr_iload_n C 3 d_Md_isAbove_207 rfl hl3 ?_
                      refine xj_iald (k := 31) C (x) (by omega) hw31 (by decide) (by omega) (by decide) d_Md_isAbove_208 ?_
                      refine xr_aload_n C 0 d_Md_isAbove_209 rfl hl0 ?_
                      refine xr_get (k := 29) C xg_Md_13 hw29 (by decide) rfl d_Md_isAbove_210 ?_
                      refine xr_iload C d_Md_isAbove_213 hl4 ?_
                      refine xj_iald (k := 31) C (y) (by omega) hw31 (by decide) (by omega) (by decide) d_Md_isAbove_215 ?_
                      refine xz_icmp_ne (tgt := 223) C d_Md_isAbove_216 (by decide) (by omega) (by omega) (fun c216 => ?_) (fun c216 => ?_)
                      · skip
                        have hfe : ¬ sFs S x = sFs S y := by omega
                        refine xr_iconst C d_Md_isAbove_223 ?_
                        refine xr_istore C d_Md_isAbove_224 (by decide) ?_
                        refine xr_iload C d_Md_isAbove_226 rfl ?_
                        refine xz_if_eq (tgt := 240) C d_Md_isAbove_228 (by decide) (by omega) (fun c228 => ?_) (fun c228 => by exfalso; omega)
                        refine xr_aload_n C 0 d_Md_isAbove_240 rfl hl0 ?_
                        refine xr_get (k := 29) C xg_Md_13 hw29 (by decide) rfl d_Md_isAbove_241 ?_
                        refine xr_iload_n C 3 d_Md_isAbove_244 rfl hl3 ?_
                        refine xj_iald (k := 31) C (x) (by omega) hw31 (by decide) (by omega) (by decide) d_Md_isAbove_245 ?_
                        refine xr_istore C d_Md_isAbove_246 (by decide) ?_
                        refine xr_iload C d_Md_isAbove_248 rfl ?_
                        refine xz_if_eq (tgt := 263) C d_Md_isAbove_250 (by decide) (by omega) (fun c250 => ?_) (fun c250 => by exfalso; omega)
                        refine xr_aload_n C 0 d_Md_isAbove_263 rfl hl0 ?_
                        refine xr_get (k := 29) C xg_Md_13 hw29 (by decide) rfl d_Md_isAbove_264 ?_
                        refine xr_iload C d_Md_isAbove_267 hl4 ?_
                        refine xj_iald (k := 31) C (y) (by omega) hw31 (by decide) (by omega) (by decide) d_Md_isAbove_269 ?_
                        refine xr_istore C d_Md_isAbove_270 (by decide) ?_
                        refine xr_iload C d_Md_isAbove_272 rfl ?_
                        refine xr_istore_n C 3 d_Md_isAbove_274 rfl (by decide) ?_
                        refine xr_goto (tgt := 5) C d_Md_isAbove_275 (by decide) ?_
                        unfold shp at sx sy
                        first
                          | exact ih (sFs S x).toNat (sFs S y).toNat _ _ (by omega) (by omega) (by omega) hSA' hfr2 (by rw [← hEq, abv_fst (by omega) ho9 (by omega) hnx hny (by omega) hfe (by omega)]) hl0 (by show some (Value.int (zI (fs x))) = _; rw [mx2, show (((sFs S x).toNat : Nat) : Int) = sFs S x by omega]) (by show some (Value.int (zI (fs y))) = _; rw [my2, show (((sFs S y).toNat : Nat) : Int) = sFs S y by omega])
                          | exact ih (sSn S x).toNat (sSn S y).toNat _ _ (by omega) (by omega) (by omega) hSA' hfr2 (by rw [← hEq, abv_snd (by omega) ho9 (by omega) hnx hny (by omega) hfe (by omega)]) hl0 (by show some (Value.int (zI (sn x))) = _; rw [mx3, show (((sSn S x).toNat : Nat) : Int) = sSn S x by omega]) (by show some (Value.int (zI (sn y))) = _; rw [my3, show (((sSn S y).toNat : Nat) : Int) = sSn S y by omega])
                      · skip
                        have hfe : sFs S x = sFs S y := by omega
                        have h2x : 6 ≤ sSg S x := by
                          unfold shp at sx sy
                          rcases Int.lt_or_le (sSg S x) 6 with q | q
                          · exact absurd (hT.2.2 x y (by omega) (by omega) (by omega) hfe (by omega)) (by omega)
                          · exact q
                        refine xr_iconst C d_Md_isAbove_219 ?_
                        refine xr_goto (tgt := 224) C d_Md_isAbove_220 (by decide) ?_
                        refine xr_istore C d_Md_isAbove_224 (by decide) ?_
                        refine xr_iload C d_Md_isAbove_226 rfl ?_
                        refine xz_if_eq (tgt := 240) C d_Md_isAbove_228 (by decide) (by omega) (fun c228 => by exfalso; omega) (fun c228 => ?_)
                        refine xr_aload_n C 0 d_Md_isAbove_231 rfl hl0 ?_
                        refine xr_get (k := 29) C xg_Md_16 hw29 (by decide) rfl d_Md_isAbove_232 ?_
                        refine xr_iload_n C 3 d_Md_isAbove_235 rfl hl3 ?_
                        refine xj_iald (k := 32) C (x) (by omega) hw32 (by decide) (by omega) (by decide) d_Md_isAbove_236 ?_
                        refine xr_goto (tgt := 246) C d_Md_isAbove_237 (by decide) ?_
                        refine xr_istore C d_Md_isAbove_246 (by decide) ?_
                        refine xr_iload C d_Md_isAbove_248 rfl ?_
                        refine xz_if_eq (tgt := 263) C d_Md_isAbove_250 (by decide) (by omega) (fun c250 => by exfalso; omega) (fun c250 => ?_)
                        refine xr_aload_n C 0 d_Md_isAbove_253 rfl hl0 ?_
                        refine xr_get (k := 29) C xg_Md_16 hw29 (by decide) rfl d_Md_isAbove_254 ?_
                        refine xr_iload C d_Md_isAbove_257 hl4 ?_
                        refine xj_iald (k := 32) C (y) (by omega) hw32 (by decide) (by omega) (by decide) d_Md_isAbove_259 ?_
                        refine xr_goto (tgt := 270) C d_Md_isAbove_260 (by decide) ?_
                        refine xr_istore C d_Md_isAbove_270 (by decide) ?_
                        refine xr_iload C d_Md_isAbove_272 rfl ?_
                        refine xr_istore_n C 3 d_Md_isAbove_274 rfl (by decide) ?_
                        refine xr_goto (tgt := 5) C d_Md_isAbove_275 (by decide) ?_
                        unfold shp at sx sy
                        first
                          | exact ih (sFs S x).toNat (sFs S y).toNat _ _ (by omega) (by omega) (by omega) hSA' hfr2 (by rw [← hEq, abv_fst (by omega) ho9 (by omega) hnx hny (by omega) hfe (by omega)]) hl0 (by show some (Value.int (zI (fs x))) = _; rw [mx2, show (((sFs S x).toNat : Nat) : Int) = sFs S x by omega]) (by show some (Value.int (zI (fs y))) = _; rw [my2, show (((sFs S y).toNat : Nat) : Int) = sFs S y by omega])
                          | exact ih (sSn S x).toNat (sSn S y).toNat _ _ (by omega) (by omega) (by omega) hSA' hfr2 (by rw [← hEq, abv_snd (by omega) ho9 (by omega) hnx hny (by omega) hfe (by omega)]) hl0 (by show some (Value.int (zI (sn x))) = _; rw [mx3, show (((sSn S x).toNat : Nat) : Int) = sSn S x by omega]) (by show some (Value.int (zI (sn y))) = _; rw [my3, show (((sSn S y).toNat : Nat) : Int) = sSn S y by omega])
                    · skip
                      refine xr_aload_n C 0 d_Md_isAbove_181 rfl hl0 ?_
                      refine xr_get (k := 29) C xg_Md_7 hw29 (by decide) rfl d_Md_isAbove_182 ?_
                      refine xr_iload_n C 3 d_Md_isAbove_185 rfl hl3 ?_
                      refine xj_iald (k := 30) C (x) (by omega) hw30 (by decide) (by omega) (by decide) d_Md_isAbove_186 ?_
                      refine xr_aload_n C 0 d_Md_isAbove_187 rfl hl0 ?_
                      refine xr_get (k := 29) C xg_Md_7 hw29 (by decide) rfl d_Md_isAbove_188 ?_
                      refine xr_iload C d_Md_isAbove_191 hl4 ?_
                      refine xj_iald (k := 30) C (y) (by omega) hw30 (by decide) (by omega) (by decide) d_Md_isAbove_193 ?_
                      refine xz_icmp_le (tgt := 201) C d_Md_isAbove_194 (by decide) (by omega) (by omega) (fun c194 => ?_) (fun c194 => ?_)
                      · skip
                        refine xr_iconst C d_Md_isAbove_201 ?_
                        exact xr_zret C E (by omega) ⟨rfl, rfl, _, rfl, by rw [← hEq, abv_head (by omega) ho9 (by omega) (by omega) (by omega) (by omega)]; exact xb_z (by omega), hSA', hfr2⟩ (by decide) (by decide) d_Md_isAbove_202
                      · skip
                        refine xr_iconst C d_Md_isAbove_197 ?_
                        refine xr_goto (tgt := 202) C d_Md_isAbove_198 (by decide) ?_
                        exact xr_zret C E (by omega) ⟨rfl, rfl, _, rfl, by rw [← hEq, abv_head (by omega) ho9 (by omega) (by omega) (by omega) (by omega)]; exact xb_z (by omega), hSA', hfr2⟩ (by decide) (by decide) d_Md_isAbove_202
                  · skip
                    refine xr_iconst C d_Md_isAbove_121 ?_
                    exact xr_zret C E (by omega) ⟨rfl, rfl, _, rfl, by rw [← hEq, abv_hole (by omega) ho9 (by omega) (by omega)]; rfl, hSA', hfr2⟩ (by decide) (by decide) d_Md_isAbove_122
          · skip
            refine xr_aload_n C 0 d_Md_isAbove_37 rfl hl0 ?_
            refine xr_get (k := 29) C xg_Md_19 hw29 (by decide) rfl d_Md_isAbove_38 ?_
            refine xr_iload_n C 3 d_Md_isAbove_41 rfl hl3 ?_
            refine xj_iald (k := 33) C (x) (by omega) hw33 (by decide) (by omega) (by decide) d_Md_isAbove_42 ?_
            refine xr_aload_n C 0 d_Md_isAbove_43 rfl hl0 ?_
            refine xr_get (k := 29) C xg_Md_19 hw29 (by decide) rfl d_Md_isAbove_44 ?_
            refine xr_iload C d_Md_isAbove_47 hl4 ?_
            refine xj_iald (k := 33) C (y) (by omega) hw33 (by decide) (by omega) (by decide) d_Md_isAbove_49 ?_
            refine xz_icmp_le (tgt := 57) C d_Md_isAbove_50 (by decide) (by omega) (by omega) (fun c50 => ?_) (fun c50 => ?_)
            · skip
              refine xr_iconst C d_Md_isAbove_57 ?_
              exact xr_zret C E (by omega) ⟨rfl, rfl, _, rfl, by rw [← hEq, abv_wt (by omega) ho9 (by omega)]; exact xb_z (by omega), hSA', hfr2⟩ (by decide) (by decide) d_Md_isAbove_58
            · skip
              refine xr_iconst C d_Md_isAbove_53 ?_
              refine xr_goto (tgt := 58) C d_Md_isAbove_54 (by decide) ?_
              exact xr_zret C E (by omega) ⟨rfl, rfl, _, rfl, by rw [← hEq, abv_wt (by omega) ho9 (by omega)]; exact xb_z (by omega), hSA', hfr2⟩ (by decide) (by decide) d_Md_isAbove_58
  refine xr_iload_n C 1 d_Md_isAbove_0 rfl rfl ?_
  refine xr_istore_n C 3 d_Md_isAbove_1 rfl (by decide) ?_
  refine xr_iload_n C 2 d_Md_isAbove_2 rfl rfl ?_
  refine xr_istore C d_Md_isAbove_3 (by decide) ?_
  exact lp (x0 + 1) x0 y0 _ _ (by omega) hx hy hSA (fun k _ _ _ _ => rfl) rfl rfl rfl rfl
