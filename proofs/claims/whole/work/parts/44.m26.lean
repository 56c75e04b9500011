/-- all rows that the reference writes in passing -/
def MSC (cA : Nat → ClassId) (w : Nat → va_E) : Prop := SA cA w ∧ MG cA w ∧ (∃ f, w 54 = xIA (cA 1) 16 f) ∧ (∃ f, w 43 = xIA (cA 0) 800 f)
theorem mg_sa {cA : Nat → ClassId} {w w' : Nat → va_E} (h : MG cA w) (hs : SA cA w') (hf : ∀ k, k ≠ 46 → k ≠ 47 → k ≠ 50 → k ≠ 51 → k ≠ 54 → w' k = w k) : MG cA w' := by
  obtain ⟨⟨a, ha⟩, ⟨b, hb⟩, -, -, ⟨e, he⟩, ⟨f, hf9⟩, ⟨g, hg⟩, ⟨i, hi⟩⟩ := h
  exact ⟨⟨a, (hf 44 (by decide) (by decide) (by decide) (by decide) (by decide)).trans ha⟩, ⟨b, (hf 45 (by decide) (by decide) (by decide) (by decide) (by decide)).trans hb⟩, hs.1, hs.2.1, ⟨e, (hf 48 (by decide) (by decide) (by decide) (by decide) (by decide)).trans he⟩, ⟨f, (hf 49 (by decide) (by decide) (by decide) (by decide) (by decide)).trans hf9⟩, ⟨g, (hf 52 (by decide) (by decide) (by decide) (by decide) (by decide)).trans hg⟩, ⟨i, (hf 53 (by decide) (by decide) (by decide) (by decide) (by decide)).trans hi⟩⟩
theorem sa_mg {cA : Nat → ClassId} {w w' : Nat → va_E} (h : SA cA w) (hg : MG cA w') (hf : ∀ k, 50 ≤ k → k ≤ 51 → w' k = w k) : SA cA w' := by
  obtain ⟨-, -, ⟨c, hc⟩, ⟨d, hd⟩⟩ := h
  exact ⟨hg.2.2.1, hg.2.2.2.1, ⟨c, (hf 50 (by decide) (by decide)).trans hc⟩, ⟨d, (hf 51 (by decide) (by decide)).trans hd⟩⟩
theorem msc_fr {cA : Nat → ClassId} {w w' : Nat → va_E} (h : MSC cA w) (hf : ∀ k, 43 ≤ k → k ≤ 54 → w' k = w k) : MSC cA w' := by
  obtain ⟨h1, h2, ⟨a, ha⟩, ⟨b, hb⟩⟩ := h
  exact ⟨sa_fr h1 (fun k a b => hf k (by omega) (by omega)), mg_fr h2 (fun k a b => hf k (by omega) (by omega)), ⟨a, (hf 54 (by decide) (by decide)).trans ha⟩, ⟨b, (hf 43 (by decide) (by decide)).trans hb⟩⟩
theorem RWS_cp {f g : Nat → Int} {acc : List (Nat × Nat × Nat × Nat)} (h : RWS g acc) (hf : ∀ j, j < 4 * min 200 acc.length → f j = g j) : RWS f acc := by
  intro i r p a b hi hg
  obtain ⟨h1, h2, h3, h4⟩ := h i r p a b hi hg
  have hl := (List.getElem?_eq_some_iff.mp hg).1
  rw [hf _ (by omega), hf _ (by omega), hf _ (by omega), hf _ (by omega)]
  exact ⟨h1, h2, h3, h4⟩
theorem mt_th {ad : Nat → Nat} {cA : Nat → ClassId} {w : Nat → va_E} {S : xS} {ru ro sp nr ns th th' : Int} {se fa so : Bool} (h : MT ad cA w S ru ro sp nr ns th se fa so) : MT ad cA (va_up w 29 (mdO ad (sN S : Int) ru ro sp nr ns th' se fa so)) S ru ro sp nr ns th' se fa so := by
  obtain ⟨sg, fs, sn, wt, pl, dp, ho, hw29, hw30, hw31, hw32, hw33, hw34, hw35, hw36, hA⟩ := h
  exact ⟨sg, fs, sn, wt, pl, dp, ho, va_eq, hw30, hw31, hw32, hw33, hw34, hw35, hw36, hA⟩
set_option maxHeartbeats 4000000 in
set_option maxRecDepth 100000 in
theorem m_Md_rewrite {L : Launch} {D : va_G} {cA : Nat → ClassId} {base : Nat} {ad : Nat → Nat} {w : Nat → va_E} {S : xS} {n : Nat} {ro sp nr ns th : Int} {se fa so : Bool} (hMT : MT ad cA w S (n : Int) ro sp nr ns th se fa so) (hT : Tb S) (hM : MSC cA w) {rl rr : Nat → Int} (hn : n ≤ 16) (hw37 : w 37 = xIA (cA 0) 16 rl) (hw38 : w 38 = xIA (cA 0) 16 rr) (hR : RG S n rl rr) {co ch an : Nat → Int} (hw39 : w 39 = xIA (cA 0) 16 co) (hw40 : w 40 = xIA (cA 1) 16 ch) (hw41 : w 41 = xIA (cA 0) 10 an) (hco : ∀ j, -1 ≤ co j ∧ co j < 10) (hch : ∀ j, ch j = 0 ∨ ch j = 1) (han : ∀ j, 0 ≤ an j ∧ an j ≤ 2) {le9 f42 : Nat → Int} (hle : ∀ r, r < n → le9 r = xb (abv S (rl r).toNat (rr r).toNat)) (hw42 : w 42 = xIA (cA 0) 800 f42) {x : Int} (hx : -2147483648 ≤ x ∧ x < 2147483648) {y : Int} (hy : -2147483648 ≤ y ∧ y < 2147483648) : XM L D cA base y_Md_rewrite c_Md_rewrite 4 (some .int) (xrm 6 0 0) [.ref (ad 29), .int (zI x), .int (zI y)] 56 ad w (xRet 56 ad (fun v w' => (¬ (0 ≤ x ∧ x < (sN S : Int)) ∧ v = 0 ∧ w' = va_up w 29 (mdO ad (sN S : Int) (n : Int) ro sp nr ns 1 se fa so)) ∨ ((0 ≤ x ∧ x < (sN S : Int)) ∧ ¬ (sHo S x.toNat = 0 ∧ (0 ≤ y ∧ y ≤ 200)) ∧ v = 0 ∧ w' = va_up w 29 (mdO ad (sN S : Int) (n : Int) ro sp nr ns 2 se fa so)) ∨ ((0 ≤ x ∧ x < (sN S : Int)) ∧ (sHo S x.toNat = 0 ∧ (0 ≤ y ∧ y ≤ 200)) ∧ ∃ (z : Int) (S' : xS) (acc : List (Nat × Nat × Nat × Nat)), (z, S', acc) = runS n rl rr (usS co ch an le9 false) y.toNat S x.toNat [] ∧ Tb S' ∧ xt S S' ∧ -1 ≤ z ∧ z < sN S' ∧ MSC cA w' ∧ (∀ k, (k < 29 ∨ 36 < k) → (k < 42 ∨ 54 < k) → w' k = w k) ∧ ((0 ≤ z ∧ v = z ∧ MT ad cA w' S' (n : Int) ((min 200 acc.length : Nat) : Int) (acc.length : Int) ((min 200 acc.length : Nat) : Int) (acc.length : Int) 0 (decide (fnS S' (lowR S' n rl (usS co ch an le9 false)) z.toNat ≠ -1)) false (decide (fnS S' (lowR S' n rl (usS co ch an le9 false)) z.toNat ≠ -1)) ∧ ∃ f, w' 42 = xIA (cA 0) 800 f ∧ RWS f acc) ∨ (z < 0 ∧ v = 0 ∧ w' 42 = w 42 ∧ ∃ (nr ns : Int) (so : Bool), MT ad cA w' (cut S' (sN S)) (n : Int) ro sp nr ns 3 se true so))))) xF := by
  refine xm_of (by decide +kernel) (by simp [Value.category]) (Nat.le_of_ble_eq_true rfl) (fun G C E _ => ?_)
  obtain ⟨sg, fs, sn, wt, pl, dp, ho, hw29, hw30, hw31, hw32, hw33, hw34, hw35, hw36, hA⟩ := hMT
  have hN := hT.1
  obtain ⟨f54, hw54⟩ := hM.2.2.1
  obtain ⟨f43, hw43⟩ := hM.2.2.2
  have hw42z := hw42
  refine xr_aload_n C 0 d_Md_rewrite_0 rfl rfl ?_
  refine xr_aload_n C 0 d_Md_rewrite_1 rfl rfl ?_
  refine xr_iload_n C 1 d_Md_rewrite_2 rfl rfl ?_
  refine xr_callV (k9 := 29) C (m_Md_isTree hw29 (by omega) (x := x) (by omega)) xm_Md_109 x2_Md_isTree hw29 (by decide) rfl (by decide) (by decide) (Nat.le_of_ble_eq_true rfl) rfl d_Md_rewrite_3 (fun En n9 ad9 w9 hx9 => hx9.elim) (fun v n9 ad9 w9 hp => ?_)
  obtain ⟨rfl, rfl, rfl, rfl⟩ := hp
  show XW _ _ _ _ _ _ 6 _ (_ :: _)
  refine xb_if_ne (tgt := 13) C d_Md_rewrite_6 (by decide)  (fun c6 => ?_) (fun c6 => ?_)
  · skip
    have b6 : (0 ≤ x ∧ x < (sN S : Int)) := of_decide_eq_true c6
    have mho := (hA.1 x.toNat (by omega)).2.2.2.2.2.2
    have rho := (hA.2 x.toNat).2.2.2.2.2.2
    refine xr_aload_n C 0 d_Md_rewrite_13 rfl rfl ?_
    refine xr_get (k := 29) C xg_Md_28 hw29 (by decide) rfl d_Md_rewrite_14 ?_
    refine xr_iload_n C 1 d_Md_rewrite_17 rfl rfl ?_
    refine xz_iald (k := 36) C hw36 (by decide) (by omega) (by decide) d_Md_rewrite_18 ?_
    refine xz_if_ne (tgt := 33) C d_Md_rewrite_19 (by decide) (by omega) (fun c19 => ?_) (fun c19 => ?_)
    · skip
      refine xr_iconst C d_Md_rewrite_33 ?_
      refine xr_goto (tgt := 38) C d_Md_rewrite_34 (by decide) ?_
      refine xr_put (k := 29) C xf_Md_86 hw29 (by decide) rfl rfl (Nat.le_of_ble_eq_true rfl) d_Md_rewrite_38 ?_
      refine xr_aload_n C 0 d_Md_rewrite_41 rfl rfl ?_
      refine xr_get (k := 29) C xg_Md_86 rfl (by decide) rfl d_Md_rewrite_42 ?_
      refine xz_if_eq (tgt := 50) C d_Md_rewrite_45 (by decide) (by omega) (fun c45 => by exfalso; omega) (fun c45 => ?_)
      refine xr_iconst C d_Md_rewrite_48 ?_
      exact xr_iret C E ⟨rfl, rfl, _, rfl, by first | exact Or.inl ⟨by omega, rfl, rfl⟩ | exact Or.inr (Or.inl ⟨by omega, by omega, rfl, rfl⟩)⟩ (by decide) (by decide) d_Md_rewrite_49
    · skip
      refine xr_iload_n C 2 d_Md_rewrite_22 rfl rfl ?_
      refine xz_if_lt (tgt := 33) C d_Md_rewrite_23 (by decide) (by omega) (fun c23 => ?_) (fun c23 => ?_)
      · skip
        refine xr_iconst C d_Md_rewrite_33 ?_
        refine xr_goto (tgt := 38) C d_Md_rewrite_34 (by decide) ?_
        refine xr_put (k := 29) C xf_Md_86 hw29 (by decide) rfl rfl (Nat.le_of_ble_eq_true rfl) d_Md_rewrite_38 ?_
        refine xr_aload_n C 0 d_Md_rewrite_41 rfl rfl ?_
        refine xr_get (k := 29) C xg_Md_86 rfl (by decide) rfl d_Md_rewrite_42 ?_
        refine xz_if_eq (tgt := 50) C d_Md_rewrite_45 (by decide) (by omega) (fun c45 => by exfalso; omega) (fun c45 => ?_)
        refine xr_iconst C d_Md_rewrite_48 ?_
        exact xr_iret C E ⟨rfl, rfl, _, rfl, by first | exact Or.inl ⟨by omega, rfl, rfl⟩ | exact Or.inr (Or.inl ⟨by omega, by omega, rfl, rfl⟩)⟩ (by decide) (by decide) d_Md_rewrite_49
      · skip
        refine xr_iload_n C 2 d_Md_rewrite_26 rfl rfl ?_
        refine xr_sipush C d_Md_rewrite_27 (by decide) ?_
        refine xz_icmp_le (tgt := 37) C d_Md_rewrite_30 (by decide) (by omega) (by omega) (fun c30 => ?_) (fun c30 => ?_)
        · skip
          refine xr_iconst C d_Md_rewrite_37 ?_
          refine xr_put (k := 29) C xf_Md_86 hw29 (by decide) rfl rfl (Nat.le_of_ble_eq_true rfl) d_Md_rewrite_38 ?_
          refine xr_aload_n C 0 d_Md_rewrite_41 rfl rfl ?_
          refine xr_get (k := 29) C xg_Md_86 rfl (by decide) rfl d_Md_rewrite_42 ?_
          refine xz_if_eq (tgt := 50) C d_Md_rewrite_45 (by decide) (by omega) (fun c45 => ?_) (fun c45 => by exfalso; omega)
          refine xr_aload_n C 0 d_Md_rewrite_50 rfl rfl ?_
          refine xr_iconst C d_Md_rewrite_51 ?_
          show XW _ _ _ _ _ _ _ _ (.int (zI (xb false)) :: _)
          refine xr_callV (k9 := 29) C (m_Md_lookForRules (w := va_up w 29 (mdO ad (sN S : Int) (n : Int) ro sp nr ns 0 se fa so)) (only := false) ⟨sg, fs, sn, wt, pl, dp, ho, rfl, hw30, hw31, hw32, hw33, hw34, hw35, hw36, hA⟩ hT hM.1 hn hw37 hw38 hR hw39 hw40 hw41 hco hch han hle hw54) xm_Md_176 x2_Md_lookForRules rfl (by decide) rfl (by decide) (by decide) (Nat.le_of_ble_eq_true rfl) rfl d_Md_rewrite_52 (fun En n9 ad9 w9 hx9 => hx9.elim) (fun v n9 ad9 w9 hp => ?_)
          obtain ⟨rfl, rfl, rfl, fu, hw54', hus, hSA1, hfr1⟩ := hp
          have hMG1 := mg_sa (w := va_up w 29 (mdO ad (sN S : Int) (n : Int) ro sp nr ns 0 se fa so)) hM.2.1 hSA1 hfr1
          have hw29 : w9 29 = mdO ad (sN S : Int) (n : Int) ro sp nr ns 0 se fa so := (hfr1 29 (by decide) (by decide) (by decide) (by decide) (by decide)).trans va_eq
          have hw37 := (hfr1 37 (by decide) (by decide) (by decide) (by decide) (by decide)).trans hw37
          have hw38 := (hfr1 38 (by decide) (by decide) (by decide) (by decide) (by decide)).trans hw38
          have hw42 := (hfr1 42 (by decide) (by decide) (by decide) (by decide) (by decide)).trans hw42
          have hw43 := (hfr1 43 (by decide) (by decide) (by decide) (by decide) (by decide)).trans hw43
          have hMT1 : MT ad cA w9 S (n : Int) ro sp nr ns 0 se fa so := mt_fr (w := va_up w 29 (mdO ad (sN S : Int) (n : Int) ro sp nr ns 0 se fa so)) ⟨sg, fs, sn, wt, pl, dp, ho, rfl, hw30, hw31, hw32, hw33, hw34, hw35, hw36, hA⟩ (fun k a b => hfr1 k (by omega) (by omega) (by omega) (by omega) (by omega))
          have hfrA : (∀ k, (k < 29 ∨ 36 < k) → (k < 42 ∨ 54 < k) → w9 k = w k) := fun k a b => (hfr1 k (by omega) (by omega) (by omega) (by omega) (by omega)).trans (va_ne (by omega))
          refine xr_aload_n C 0 d_Md_rewrite_55 rfl rfl ?_
          refine xr_iload_n C 1 d_Md_rewrite_56 rfl rfl ?_
          refine xr_eqz (y := ((x.toNat : Nat) : Int)) (by omega) ?_
          refine xr_iload_n C 2 d_Md_rewrite_57 rfl rfl ?_
          refine xr_callV (k9 := 29) C (m_Md_go (M := y.toNat) (most := y) hMT1 hT hn hw37 hw38 hR hw54' hus hMG1 hw43 (t := x.toNat) (by omega) (Or.inl ⟨by omega, by omega⟩)) xm_Md_180 x2_Md_go hw29 (by decide) rfl (by decide) (by decide) (Nat.le_of_ble_eq_true rfl) rfl d_Md_rewrite_58 (fun En n9 ad9 w9 hx9 => hx9.elim) (fun v n9 ad9 w9 hp => ?_)
          obtain ⟨rfl, rfl, v, rfl, z, S', acc, hrun, hT', hx', hz1, hzN, hMG2, ⟨fr, hw43', hRW⟩, hfr2, hcase⟩ := hp
          have hSA2 := sa_mg hSA1 hMG2 (fun k a b => hfr2 k (by omega) (by omega) (by omega) (by omega) (by omega))
          have hw54'' := (hfr2 54 (by omega) (by omega) (by omega) (by omega) (by omega)).trans hw54'
          have hw42 := (hfr2 42 (by omega) (by omega) (by omega) (by omega) (by omega)).trans hw42
          have hfrB : (∀ k, (k < 29 ∨ 36 < k) → (k < 42 ∨ 54 < k) → w9 k = w k) := fun k a b => (hfr2 k a (by omega) (by omega) (by omega) (by omega)).trans (hfrA k a b)
          have hM2 : MSC cA w9 := ⟨hSA2, hMG2, ⟨fu, hw54''⟩, ⟨fr, hw43'⟩⟩
          show XW _ _ _ _ _ _ 61 _ (_ :: _)
          rcases hcase with ⟨hz, hv, hMT2⟩ | ⟨hz, nr2, ns2, hMT2⟩
          · obtain ⟨sg, fs, sn, wt, pl, dp, ho, hw29, hw30, hw31, hw32, hw33, hw34, hw35, hw36, hA⟩ := id hMT2
            refine xr_istore_n C 3 d_Md_rewrite_61 rfl (by decide) ?_
            refine xr_aload_n C 0 d_Md_rewrite_62 rfl rfl ?_
            refine xr_aload_n C 0 d_Md_rewrite_63 rfl rfl ?_
            refine xr_get (k := 29) C xg_Md_97 hw29 (by decide) rfl d_Md_rewrite_64 ?_
            refine xb_if_eq (tgt := 74) C d_Md_rewrite_67 (by decide)  (fun c67 => ?_) (fun c67 => by exfalso; exact absurd c67 (by decide))
            refine xr_iconst C d_Md_rewrite_74 ?_
            refine xr_put (k := 29) C xf_Md_86 hw29 (by decide) rfl rfl (Nat.le_of_ble_eq_true rfl) d_Md_rewrite_75 ?_
            refine xr_aload_n C 0 d_Md_rewrite_78 rfl rfl ?_
            refine xr_get (k := 29) C xg_Md_97 rfl (by decide) rfl d_Md_rewrite_79 ?_
            refine xb_if_eq (tgt := 87) C d_Md_rewrite_82 (by decide)  (fun c82 => ?_) (fun c82 => by exfalso; exact absurd c82 (by decide))
            refine xr_aload_n C 0 d_Md_rewrite_87 rfl rfl ?_
            refine xr_callV (k9 := 29) C (m_Md_take (n := min 200 acc.length) (by omega) (th := 0) (mt_th hMT2) hw42 hw43') xm_Md_183 x2_Md_take rfl (by decide) rfl (by decide) (by decide) (Nat.le_of_ble_eq_true rfl) rfl d_Md_rewrite_88 (fun En n9 ad9 w9 hx9 => hx9.elim) (fun v n9 ad9 w9 hp => ?_)
            obtain ⟨rfl, rfl, rfl, hMT3, f9, hw42', hf9, hfr3⟩ := hp
            obtain ⟨sg, fs, sn, wt, pl, dp, ho, hw29, hw30, hw31, hw32, hw33, hw34, hw35, hw36, hA⟩ := id hMT3
            refine xr_aload_n C 0 d_Md_rewrite_91 rfl rfl ?_
            refine xr_aload_n C 0 d_Md_rewrite_92 rfl rfl ?_
            refine xr_get (k := 29) C xg_Md_167 hw29 (by decide) rfl d_Md_rewrite_93 ?_
            refine xr_put (k := 29) C xf_Md_186 hw29 (by decide) xb_nar xb_fit (Nat.le_of_ble_eq_true rfl) d_Md_rewrite_96 ?_
            refine xr_iload_n C 3 d_Md_rewrite_99 rfl rfl ?_
            exact xr_iret C E ⟨rfl, rfl, _, rfl, Or.inr (Or.inr ⟨by omega, by omega, z, S', acc, hrun, hT', hx', by omega, hzN, ⟨msc_fr hM2 (fun k a b => (va_ne (by omega)).trans ((hfr3 k (by omega) (by omega)).trans (va_ne (by omega)))), fun k a b => (va_ne (by omega)).trans ((hfr3 k (by omega) (by omega)).trans ((va_ne (by omega)).trans (hfrB k a b))), Or.inl ⟨hz, hv, ⟨sg, fs, sn, wt, pl, dp, ho, rfl, hw30, hw31, hw32, hw33, hw34, hw35, hw36, hA⟩, f9, (va_ne (by decide)).trans hw42', RWS_cp hRW hf9⟩⟩⟩)⟩ (by decide) (by decide) d_Md_rewrite_100
          · obtain ⟨sg, fs, sn, wt, pl, dp, ho, hw29, hw30, hw31, hw32, hw33, hw34, hw35, hw36, hA⟩ := id hMT2
            refine xr_istore_n C 3 d_Md_rewrite_61 rfl (by decide) ?_
            refine xr_aload_n C 0 d_Md_rewrite_62 rfl rfl ?_
            refine xr_aload_n C 0 d_Md_rewrite_63 rfl rfl ?_
            refine xr_get (k := 29) C xg_Md_97 hw29 (by decide) rfl d_Md_rewrite_64 ?_
            refine xb_if_eq (tgt := 74) C d_Md_rewrite_67 (by decide)  (fun c67 => by exfalso; exact absurd c67 (by decide)) (fun c67 => ?_)
            refine xr_iconst C d_Md_rewrite_70 ?_
            refine xr_goto (tgt := 75) C d_Md_rewrite_71 (by decide) ?_
            refine xr_put (k := 29) C xf_Md_86 hw29 (by decide) rfl rfl (Nat.le_of_ble_eq_true rfl) d_Md_rewrite_75 ?_
            refine xr_aload_n C 0 d_Md_rewrite_78 rfl rfl ?_
            refine xr_get (k := 29) C xg_Md_97 rfl (by decide) rfl d_Md_rewrite_79 ?_
            refine xb_if_eq (tgt := 87) C d_Md_rewrite_82 (by decide)  (fun c82 => by exfalso; exact absurd c82 (by decide)) (fun c82 => ?_)
            refine xr_iconst C d_Md_rewrite_85 ?_
            exact xr_iret C E ⟨rfl, rfl, _, rfl, Or.inr (Or.inr ⟨by omega, by omega, z, S', acc, hrun, hT', hx', by omega, hzN, ⟨msc_fr hM2 (fun k a b => va_ne (by omega)), fun k a b => (va_ne (by omega)).trans (hfrB k a b), Or.inr ⟨hz, rfl, (va_ne (by decide)).trans (by rw [hw42]; exact hw42z.symm), _, _, _, ⟨sg, fs, sn, wt, pl, dp, ho, rfl, hw30, hw31, hw32, hw33, hw34, hw35, hw36, hA⟩⟩⟩⟩)⟩ (by decide) (by decide) d_Md_rewrite_86
        · skip
          refine xr_iconst C d_Md_rewrite_33 ?_
          refine xr_goto (tgt := 38) C d_Md_rewrite_34 (by decide) ?_
          refine xr_put (k := 29) C xf_Md_86 hw29 (by decide) rfl rfl (Nat.le_of_ble_eq_true rfl) d_Md_rewrite_38 ?_
          refine xr_aload_n C 0 d_Md_rewrite_41 rfl rfl ?_
          refine xr_get (k := 29) C xg_Md_86 rfl (by decide) rfl d_Md_rewrite_42 ?_
          refine xz_if_eq (tgt := 50) C d_Md_rewrite_45 (by decide) (by omega) (fun c45 => by exfalso; omega) (fun c45 => ?_)
          refine xr_iconst C d_Md_rewrite_48 ?_
          exact xr_iret C E ⟨rfl, rfl, _, rfl, by first | exact Or.inl ⟨by omega, rfl, rfl⟩ | exact Or.inr (Or.inl ⟨by omega, by omega, rfl, rfl⟩)⟩ (by decide) (by decide) d_Md_rewrite_49
  · skip
    have b6 : ¬ (0 ≤ x ∧ x < (sN S : Int)) := of_decide_eq_false c6
    refine xr_iconst C d_Md_rewrite_9 ?_
    refine xr_goto (tgt := 38) C d_Md_rewrite_10 (by decide) ?_
    refine xr_put (k := 29) C xf_Md_86 hw29 (by decide) rfl rfl (Nat.le_of_ble_eq_true rfl) d_Md_rewrite_38 ?_
    refine xr_aload_n C 0 d_Md_rewrite_41 rfl rfl ?_
    refine xr_get (k := 29) C xg_Md_86 rfl (by decide) rfl d_Md_rewrite_42 ?_
    refine xz_if_eq (tgt := 50) C d_Md_rewrite_45 (by decide) (by omega) (fun c45 => by exfalso; omega) (fun c45 => ?_)
    refine xr_iconst C d_Md_rewrite_48 ?_
    exact xr_iret C E ⟨rfl, rfl, _, rfl, by first | exact Or.inl ⟨by omega, rfl, rfl⟩ | exact Or.inr (Or.inl ⟨by omega, by omega, rfl, rfl⟩)⟩ (by decide) (by decide) d_Md_rewrite_49
set_option maxHeartbeats 4000000 in
set_option maxRecDepth 100000 in
theorem m_Md_normal {L : Launch} {D : va_G} {cA : Nat → ClassId} {base : Nat} {ad : Nat → Nat} {w : Nat → va_E} {S : xS} {n : Nat} {ro sp nr ns th : Int} {se fa so : Bool} (hMT : MT ad cA w S (n : Int) ro sp nr ns th se fa so) (hT : Tb S) (hM : MSC cA w) {rl rr : Nat → Int} (hn : n ≤ 16) (hw37 : w 37 = xIA (cA 0) 16 rl) (hw38 : w 38 = xIA (cA 0) 16 rr) (hR : RG S n rl rr) {co ch an : Nat → Int} (hw39 : w 39 = xIA (cA 0) 16 co) (hw40 : w 40 = xIA (cA 1) 16 ch) (hw41 : w 41 = xIA (cA 0) 10 an) (hco : ∀ j, -1 ≤ co j ∧ co j < 10) (hch : ∀ j, ch j = 0 ∨ ch j = 1) (han : ∀ j, 0 ≤ an j ∧ an j ≤ 2) {le9 f42 : Nat → Int} (hle : ∀ r, r < n → le9 r = xb (abv S (rl r).toNat (rr r).toNat)) (hw42 : w 42 = xIA (cA 0) 800 f42) {x : Int} (hx : -2147483648 ≤ x ∧ x < 2147483648) : XM L D cA base y_Md_normal c_Md_normal 3 (some .int) (xrm 6 0 0) [.ref (ad 29), .int (zI x)] 56 ad w (xRet 56 ad (fun v w' => (¬ (0 ≤ x ∧ x < (sN S : Int)) ∧ v = 0 ∧ w' = va_up w 29 (mdO ad (sN S : Int) (n : Int) ro sp nr ns 1 se fa so)) ∨ ((0 ≤ x ∧ x < (sN S : Int)) ∧ ¬ (sHo S x.toNat = 0) ∧ v = 0 ∧ w' = va_up w 29 (mdO ad (sN S : Int) (n : Int) ro sp nr ns 2 se fa so)) ∨ ((0 ≤ x ∧ x < (sN S : Int)) ∧ (sHo S x.toNat = 0) ∧ ∃ (z : Int) (S' : xS) (acc : List (Nat × Nat × Nat × Nat)), (z, S', acc) = runS n rl rr (usS co ch an le9 true) 1000 S x.toNat [] ∧ Tb S' ∧ xt S S' ∧ -1 ≤ z ∧ z < sN S' ∧ MSC cA w' ∧ (∀ k, (k < 29 ∨ 36 < k) → (k < 42 ∨ 54 < k) → w' k = w k) ∧ ((0 ≤ z ∧ v = z ∧ (∃ so9, MT ad cA w' S' (n : Int) ((min 200 acc.length : Nat) : Int) (acc.length : Int) ((min 200 acc.length : Nat) : Int) (acc.length : Int) 0 se false so9) ∧ ∃ f, w' 42 = xIA (cA 0) 800 f ∧ RWS f acc) ∨ (z < 0 ∧ v = 0 ∧ w' 42 = w 42 ∧ ∃ (nr ns : Int) (so : Bool), MT ad cA w' (cut S' (sN S)) (n : Int) ro sp nr ns 3 se true so))))) xF := by
  refine xm_of (by decide +kernel) (by simp [Value.category]) (Nat.le_of_ble_eq_true rfl) (fun G C E _ => ?_)
  obtain ⟨sg, fs, sn, wt, pl, dp, ho, hw29, hw30, hw31, hw32, hw33, hw34, hw35, hw36, hA⟩ := hMT
  have hN := hT.1
  obtain ⟨f54, hw54⟩ := hM.2.2.1
  obtain ⟨f43, hw43⟩ := hM.2.2.2
  have hw42z := hw42
  refine xr_aload_n C 0 d_Md_normal_0 rfl rfl ?_
  refine xr_aload_n C 0 d_Md_normal_1 rfl rfl ?_
  refine xr_iload_n C 1 d_Md_normal_2 rfl rfl ?_
  refine xr_callV (k9 := 29) C (m_Md_isTree hw29 (by omega) (x := x) (by omega)) xm_Md_109 x2_Md_isTree hw29 (by decide) rfl (by decide) (by decide) (Nat.le_of_ble_eq_true rfl) rfl d_Md_normal_3 (fun En n9 ad9 w9 hx9 => hx9.elim) (fun v n9 ad9 w9 hp => ?_)
  obtain ⟨rfl, rfl, rfl, rfl⟩ := hp
  show XW _ _ _ _ _ _ 6 _ (_ :: _)
  refine xb_if_ne (tgt := 13) C d_Md_normal_6 (by decide)  (fun c6 => ?_) (fun c6 => ?_)
  · skip
    have b6 : (0 ≤ x ∧ x < (sN S : Int)) := of_decide_eq_true c6
    have mho := (hA.1 x.toNat (by omega)).2.2.2.2.2.2
    have rho := (hA.2 x.toNat).2.2.2.2.2.2
    refine xr_aload_n C 0 d_Md_normal_13 rfl rfl ?_
    refine xr_get (k := 29) C xg_Md_28 hw29 (by decide) rfl d_Md_normal_14 ?_
    refine xr_iload_n C 1 d_Md_normal_17 rfl rfl ?_
    refine xz_iald (k := 36) C hw36 (by decide) (by omega) (by decide) d_Md_normal_18 ?_
    refine xz_if_eq (tgt := 26) C d_Md_normal_19 (by decide) (by omega) (fun c19 => ?_) (fun c19 => ?_)
    · skip
      refine xr_iconst C d_Md_normal_26 ?_
      refine xr_put (k := 29) C xf_Md_86 hw29 (by decide) rfl rfl (Nat.le_of_ble_eq_true rfl) d_Md_normal_27 ?_
      refine xr_aload_n C 0 d_Md_normal_30 rfl rfl ?_
      refine xr_get (k := 29) C xg_Md_86 rfl (by decide) rfl d_Md_normal_31 ?_
      refine xz_if_eq (tgt := 39) C d_Md_normal_34 (by decide) (by omega) (fun c34 => ?_) (fun c34 => by exfalso; omega)
      refine xr_aload_n C 0 d_Md_normal_39 rfl rfl ?_
      refine xr_iconst C d_Md_normal_40 ?_
      show XW _ _ _ _ _ _ _ _ (.int (zI (xb true)) :: _)
      refine xr_callV (k9 := 29) C (m_Md_lookForRules (w := va_up w 29 (mdO ad (sN S : Int) (n : Int) ro sp nr ns 0 se fa so)) (only := true) ⟨sg, fs, sn, wt, pl, dp, ho, rfl, hw30, hw31, hw32, hw33, hw34, hw35, hw36, hA⟩ hT hM.1 hn hw37 hw38 hR hw39 hw40 hw41 hco hch han hle hw54) xm_Md_176 x2_Md_lookForRules rfl (by decide) rfl (by decide) (by decide) (Nat.le_of_ble_eq_true rfl) rfl d_Md_normal_41 (fun En n9 ad9 w9 hx9 => hx9.elim) (fun v n9 ad9 w9 hp => ?_)
      obtain ⟨rfl, rfl, rfl, fu, hw54', hus, hSA1, hfr1⟩ := hp
      have hMG1 := mg_sa (w := va_up w 29 (mdO ad (sN S : Int) (n : Int) ro sp nr ns 0 se fa so)) hM.2.1 hSA1 hfr1
      have hw29 : w9 29 = mdO ad (sN S : Int) (n : Int) ro sp nr ns 0 se fa so := (hfr1 29 (by decide) (by decide) (by decide) (by decide) (by decide)).trans va_eq
      have hw37 := (hfr1 37 (by decide) (by decide) (by decide) (by decide) (by decide)).trans hw37
      have hw38 := (hfr1 38 (by decide) (by decide) (by decide) (by decide) (by decide)).trans hw38
      have hw42 := (hfr1 42 (by decide) (by decide) (by decide) (by decide) (by decide)).trans hw42
      have hw43 := (hfr1 43 (by decide) (by decide) (by decide) (by decide) (by decide)).trans hw43
      have hMT1 : MT ad cA w9 S (n : Int) ro sp nr ns 0 se fa so := mt_fr (w := va_up w 29 (mdO ad (sN S : Int) (n : Int) ro sp nr ns 0 se fa so)) ⟨sg, fs, sn, wt, pl, dp, ho, rfl, hw30, hw31, hw32, hw33, hw34, hw35, hw36, hA⟩ (fun k a b => hfr1 k (by omega) (by omega) (by omega) (by omega) (by omega))
      have hfrA : (∀ k, (k < 29 ∨ 36 < k) → (k < 42 ∨ 54 < k) → w9 k = w k) := fun k a b => (hfr1 k (by omega) (by omega) (by omega) (by omega) (by omega)).trans (va_ne (by omega))
      refine xr_aload_n C 0 d_Md_normal_44 rfl rfl ?_
      refine xr_iload_n C 1 d_Md_normal_45 rfl rfl ?_
      refine xr_eqz (y := ((x.toNat : Nat) : Int)) (by omega) ?_
      refine xr_iconst C d_Md_normal_46 ?_
      refine xr_callV (k9 := 29) C (m_Md_go (M := 1000) (most := (-1)) hMT1 hT hn hw37 hw38 hR hw54' hus hMG1 hw43 (t := x.toNat) (by omega) (Or.inr ⟨rfl, rfl, (fun r hr hu => by
                have h9 := hle r hr
                have : le9 r = 1 := by
                  unfold usS at hu
                  simp at hu
                  exact hu.2
                cases e : abv S (rl r).toNat (rr r).toNat with
                | true => rfl
                | false => rw [e, this] at h9; exact absurd h9 (by decide))⟩)) xm_Md_180 x2_Md_go hw29 (by decide) rfl (by decide) (by decide) (Nat.le_of_ble_eq_true rfl) rfl d_Md_normal_47 (fun En n9 ad9 w9 hx9 => hx9.elim) (fun v n9 ad9 w9 hp => ?_)
      obtain ⟨rfl, rfl, v, rfl, z, S', acc, hrun, hT', hx', hz1, hzN, hMG2, ⟨fr, hw43', hRW⟩, hfr2, hcase⟩ := hp
      have hSA2 := sa_mg hSA1 hMG2 (fun k a b => hfr2 k (by omega) (by omega) (by omega) (by omega) (by omega))
      have hw54'' := (hfr2 54 (by omega) (by omega) (by omega) (by omega) (by omega)).trans hw54'
      have hw42 := (hfr2 42 (by omega) (by omega) (by omega) (by omega) (by omega)).trans hw42
      have hfrB : (∀ k, (k < 29 ∨ 36 < k) → (k < 42 ∨ 54 < k) → w9 k = w k) := fun k a b => (hfr2 k a (by omega) (by omega) (by omega) (by omega)).trans (hfrA k a b)
      have hM2 : MSC cA w9 := ⟨hSA2, hMG2, ⟨fu, hw54''⟩, ⟨fr, hw43'⟩⟩
      show XW _ _ _ _ _ _ 50 _ (_ :: _)
      rcases hcase with ⟨hz, hv, hMT2⟩ | ⟨hz, nr2, ns2, hMT2⟩
      · obtain ⟨sg, fs, sn, wt, pl, dp, ho, hw29, hw30, hw31, hw32, hw33, hw34, hw35, hw36, hA⟩ := id hMT2
        refine xr_istore_n C 2 d_Md_normal_50 rfl (by decide) ?_
        refine xr_aload_n C 0 d_Md_normal_51 rfl rfl ?_
        refine xr_aload_n C 0 d_Md_normal_52 rfl rfl ?_
        refine xr_get (k := 29) C xg_Md_97 hw29 (by decide) rfl d_Md_normal_53 ?_
        refine xb_if_eq (tgt := 63) C d_Md_normal_56 (by decide)  (fun c56 => ?_) (fun c56 => by exfalso; exact absurd c56 (by decide))
        refine xr_iconst C d_Md_normal_63 ?_
        refine xr_put (k := 29) C xf_Md_86 hw29 (by decide) rfl rfl (Nat.le_of_ble_eq_true rfl) d_Md_normal_64 ?_
        refine xr_aload_n C 0 d_Md_normal_67 rfl rfl ?_
        refine xr_get (k := 29) C xg_Md_97 rfl (by decide) rfl d_Md_normal_68 ?_
        refine xb_if_eq (tgt := 76) C d_Md_normal_71 (by decide)  (fun c71 => ?_) (fun c71 => by exfalso; exact absurd c71 (by decide))
        refine xr_aload_n C 0 d_Md_normal_76 rfl rfl ?_
        refine xr_callV (k9 := 29) C (m_Md_take (n := min 200 acc.length) (by omega) (th := 0) (mt_th hMT2) hw42 hw43') xm_Md_183 x2_Md_take rfl (by decide) rfl (by decide) (by decide) (Nat.le_of_ble_eq_true rfl) rfl d_Md_normal_77 (fun En n9 ad9 w9 hx9 => hx9.elim) (fun v n9 ad9 w9 hp => ?_)
        obtain ⟨rfl, rfl, rfl, hMT3, f9, hw42', hf9, hfr3⟩ := hp
        obtain ⟨sg, fs, sn, wt, pl, dp, ho, hw29, hw30, hw31, hw32, hw33, hw34, hw35, hw36, hA⟩ := id hMT3
        refine xr_iload_n C 2 d_Md_normal_80 rfl rfl ?_
        exact xr_iret C E ⟨rfl, rfl, _, rfl, Or.inr (Or.inr ⟨by omega, by omega, z, S', acc, hrun, hT', hx', by omega, hzN, ⟨msc_fr hM2 (fun k a b => (hfr3 k (by omega) (by omega)).trans (va_ne (by omega))), fun k a b => (hfr3 k (by omega) (by omega)).trans ((va_ne (by omega)).trans (hfrB k a b)), Or.inl ⟨hz, hv, ⟨_, hMT3⟩, f9, hw42', RWS_cp hRW hf9⟩⟩⟩)⟩ (by decide) (by decide) d_Md_normal_81
      · obtain ⟨sg, fs, sn, wt, pl, dp, ho, hw29, hw30, hw31, hw32, hw33, hw34, hw35, hw36, hA⟩ := id hMT2
        refine xr_istore_n C 2 d_Md_normal_50 rfl (by decide) ?_
        refine xr_aload_n C 0 d_Md_normal_51 rfl rfl ?_
        refine xr_aload_n C 0 d_Md_normal_52 rfl rfl ?_
        refine xr_get (k := 29) C xg_Md_97 hw29 (by decide) rfl d_Md_normal_53 ?_
        refine xb_if_eq (tgt := 63) C d_Md_normal_56 (by decide)  (fun c56 => by exfalso; exact absurd c56 (by decide)) (fun c56 => ?_)
        refine xr_iconst C d_Md_normal_59 ?_
        refine xr_goto (tgt := 64) C d_Md_normal_60 (by decide) ?_
        refine xr_put (k := 29) C xf_Md_86 hw29 (by decide) rfl rfl (Nat.le_of_ble_eq_true rfl) d_Md_normal_64 ?_
        refine xr_aload_n C 0 d_Md_normal_67 rfl rfl ?_
        refine xr_get (k := 29) C xg_Md_97 rfl (by decide) rfl d_Md_normal_68 ?_
        refine xb_if_eq (tgt := 76) C d_Md_normal_71 (by decide)  (fun c71 => by exfalso; exact absurd c71 (by decide)) (fun c71 => ?_)
        refine xr_iconst C d_Md_normal_74 ?_
        exact xr_iret C E ⟨rfl, rfl, _, rfl, Or.inr (Or.inr ⟨by omega, by omega, z, S', acc, hrun, hT', hx', by omega, hzN, ⟨msc_fr hM2 (fun k a b => va_ne (by omega)), fun k a b => (va_ne (by omega)).trans (hfrB k a b), Or.inr ⟨hz, rfl, (va_ne (by decide)).trans (by rw [hw42]; exact hw42z.symm), _, _, _, ⟨sg, fs, sn, wt, pl, dp, ho, rfl, hw30, hw31, hw32, hw33, hw34, hw35, hw36, hA⟩⟩⟩⟩)⟩ (by decide) (by decide) d_Md_normal_75
    · skip
      refine xr_iconst C d_Md_normal_22 ?_
      refine xr_goto (tgt := 27) C d_Md_normal_23 (by decide) ?_
      refine xr_put (k := 29) C xf_Md_86 hw29 (by decide) rfl rfl (Nat.le_of_ble_eq_true rfl) d_Md_normal_27 ?_
      refine xr_aload_n C 0 d_Md_normal_30 rfl rfl ?_
      refine xr_get (k := 29) C xg_Md_86 rfl (by decide) rfl d_Md_normal_31 ?_
      refine xz_if_eq (tgt := 39) C d_Md_normal_34 (by decide) (by omega) (fun c34 => by exfalso; omega) (fun c34 => ?_)
      refine xr_iconst C d_Md_normal_37 ?_
      exact xr_iret C E ⟨rfl, rfl, _, rfl, by first | exact Or.inl ⟨by omega, rfl, rfl⟩ | exact Or.inr (Or.inl ⟨by omega, by omega, rfl, rfl⟩)⟩ (by decide) (by decide) d_Md_normal_38
  · skip
    have b6 : ¬ (0 ≤ x ∧ x < (sN S : Int)) := of_decide_eq_false c6
    refine xr_iconst C d_Md_normal_9 ?_
    refine xr_goto (tgt := 27) C d_Md_normal_10 (by decide) ?_
    refine xr_put (k := 29) C xf_Md_86 hw29 (by decide) rfl rfl (Nat.le_of_ble_eq_true rfl) d_Md_normal_27 ?_
    refine xr_aload_n C 0 d_Md_normal_30 rfl rfl ?_
    refine xr_get (k := 29) C xg_Md_86 rfl (by decide) rfl d_Md_normal_31 ?_
    refine xz_if_eq (tgt := 39) C d_Md_normal_34 (by decide) (by omega) (fun c34 => by exfalso; omega) (fun c34 => ?_)
    refine xr_iconst C d_Md_normal_37 ?_
    exact xr_iret C E ⟨rfl, rfl, _, rfl, by first | exact Or.inl ⟨by omega, rfl, rfl⟩ | exact Or.inr (Or.inl ⟨by omega, by omega, rfl, rfl⟩)⟩ (by decide) (by decide) d_Md_normal_38
