/-- the rows that a run writes -/
def RSC (ad : Nat → Nat) (cA : Nat → ClassId) (w : Nat → va_E) : Prop := (∃ (sp pz lz md : Int) (mo : Bool), w 19 = rnO ad sp pz lz md mo) ∧ (∃ al, w 20 = xIA (cA 1) 16 al) ∧ (∃ fo, w 21 = xIA (cA 0) 300 fo) ∧ (∃ β, w 22 = xIA (cA 0) 6 β ∧ ∀ h : Nat, -1 ≤ β h ∧ β h < 300) ∧ (∃ ar, w 23 = xIA (cA 0) 30 ar) ∧ (∃ is, w 24 = xIA (cA 1) 30 is)
theorem run_0 {n : Nat} {rl rr : Nat → Int} {us : Nat → Bool} {m : Nat} {S : xS} {t : Nat} {acc : List (Nat × Nat × Nat × Nat)} (h : fnS S (lowR S n rl us) t = -1) : runS n rl rr us m S t acc = ((t : Int), S, acc) := by
  cases m with
  | zero => rfl
  | succ m => rw [runS, if_pos h]
theorem run_f {n : Nat} {rl rr : Nat → Int} {us : Nat → Bool} {m : Nat} {S S' : xS} {t : Nat} {z : Int} {acc : List (Nat × Nat × Nat × Nat)} (h : fnS S (lowR S n rl us) t ≠ -1) (e : (z, S') = stp S n rl rr us t) (hz : z < 0) : runS n rl rr us (m + 1) S t acc = (-1, S', acc) := by rw [runS, if_neg h, ← e, if_pos hz]
theorem run_g {n : Nat} {rl rr : Nat → Int} {us : Nat → Bool} {m : Nat} {S S' : xS} {t : Nat} {z : Int} {acc : List (Nat × Nat × Nat × Nat)} (h : fnS S (lowR S n rl us) t ≠ -1) (e : (z, S') = stp S n rl rr us t) (hz : ¬ z < 0) : runS n rl rr us (m + 1) S t acc = runS n rl rr us m S' z.toNat (acc ++ [(ruT S n rl us t, (skT S n rl us t).2.2, t, z.toNat)]) := by rw [runS, if_neg h, ← e, if_neg hz]
set_option maxHeartbeats 4000000 in
set_option maxRecDepth 100000 in
theorem m_Rn_run_25 {L : Launch} {D : va_G} {cA : Nat → ClassId} {base : Nat} {ad : Nat → Nat} {w : Nat → va_E} {S : xS} (hCT : CT ad cA w S) (hT : Tb S) (hS : RSC ad cA w) {n : Nat} {rl rr co le9 ch an : Nat → Int} (hn : n ≤ 16) (hw12 : w 12 = ruO ad (n : Int)) (hw13 : w 13 = xIA (cA 0) 16 rl) (hw14 : w 14 = xIA (cA 0) 16 rr) (hw15 : w 15 = xIA (cA 0) 16 co) (hw16 : w 16 = xIA (cA 1) 16 le9) (hw17 : w 17 = xIA (cA 1) 16 ch) (hw18 : w 18 = xIA (cA 0) 10 an) (hco : ∀ j, -1 ≤ co j ∧ co j < 10) (hch : ∀ j, ch j = 0 ∨ ch j = 1) (hle : ∀ j, le9 j = 0 ∨ le9 j = 1) (han : ∀ j, 0 ≤ an j ∧ an j ≤ 2) (hR : RG S n rl rr) {only : Bool} {most t : Nat} (hmo : most ≤ 1000) (ht : t < sN S) {sz : Int} {f0 : Nat → Int} (hw25 : w 25 = roO ad 25 sz) (hw26 : w 26 = xIA (cA 0) 800 f0) : XM L D cA base y_Rn_run c_Rn_run 7 (some .int) (xrm 68 0 0) [.ref (ad 19), .int (zI (t : Int)), .int (zI (most : Int)), .int (zI (xb only)), .ref (ad 25)] 56 ad w (xRet 56 ad (fun z w' => ∃ (S' : xS) (acc : List (Nat × Nat × Nat × Nat)) (f : Nat → Int), (z, S', acc) = runS n rl rr (usS co ch an le9 only) most S t [] ∧ Tb S' ∧ xt S S' ∧ -1 ≤ z ∧ z < sN S' ∧ CT ad cA w' S' ∧ RSC ad cA w' ∧ (0 ≤ z → ∃ sp pz lz : Int, w' 19 = rnO ad sp pz lz (acc.length : Int) (decide (fnS S' (lowR S' n rl (usS co ch an le9 only)) z.toNat ≠ -1))) ∧ w' 25 = roO ad 25 ((min 200 acc.length : Nat) : Int) ∧ w' 26 = xIA (cA 0) 800 f ∧ RWS f acc ∧ (∀ k, (k < 1 ∨ 11 < k) → (k < 19 ∨ 24 < k) → k ≠ 25 → k ≠ 26 → w' k = w k))) xF := by
  refine xm_of (by decide +kernel) (by simp [Value.category]) (Nat.le_of_ble_eq_true rfl) (fun G C E _ => ?_)
  obtain ⟨⟨sp, pz, lz, md, mo, hw19⟩, ⟨al0, hw20⟩, ⟨fo0, hw21⟩, ⟨β0, hw22, hβ0⟩, ⟨ar0, hw23⟩, ⟨is0, hw24⟩⟩ := hS
  have J : ∀ (al : Nat → Int), (∀ r, r < n → al r = xb ((usS co ch an le9 only) r)) → ∀ (S1 : xS) (x : Nat) (acc : List (Nat × Nat × Nat × Nat)) (w1 : Nat → va_E) (sp pz lz : Int) (mo : Bool) (fo β ar is f : Nat → Int) (lv : Nat → Option Value), ((x : Int), S1, acc) = runS n rl rr (usS co ch an le9 only) most S t [] → Tb S1 → xt S S1 → CT ad cA w1 S1 → x < sN S1 → w1 19 = rnO ad sp pz lz (acc.length : Int) mo → w1 20 = xIA (cA 1) 16 al → w1 21 = xIA (cA 0) 300 fo → FN S1 (lowR S1 n rl (usS co ch an le9 only)) fo → w1 22 = xIA (cA 0) 6 β → (∀ h, -1 ≤ β h ∧ β h < 300) → w1 23 = xIA (cA 0) 30 ar → w1 24 = xIA (cA 1) 30 is → w1 25 = roO ad 25 ((min 200 acc.length : Nat) : Int) → w1 26 = xIA (cA 0) 800 f → RWS f acc → (∀ k, (k < 1 ∨ 11 < k) → (k < 19 ∨ 24 < k) → k ≠ 25 → k ≠ 26 → w1 k = w k) → lv 0 = some (.ref (ad 19)) → lv 2 = some (.int (zI (most : Int))) → lv 4 = some (.ref (ad 25)) → lv 5 = some (.int (zI (x : Int))) → XW G 56 ad w1 0 0 90 lv [] := by
    intro al hal S1 x acc w1 sp pz lz mo fo β ar is f lv hres hT1 hx1 hCT1 hxN hw19 hw20 hw21 hF hw22 hβ hw23 hw24 hw25 hw26 hRW hfr hq0 hq2 hq4 hq5
    have hN1 := hT1.1
    have hR1 := rg_xt hx1 hR
    obtain ⟨mk, fs, sn, wt, pl, dp, ho, hc, nw, od, hw1, hw2, hw3, hw4, hw5, hw6, hw7, hw8, hw9, hw10, hw11, hC⟩ := id hCT1
    have hw12 := (hfr 12 (by decide) (by decide) (by decide) (by decide)).trans hw12
    have hw13 := (hfr 13 (by decide) (by decide) (by decide) (by decide)).trans hw13
    have hw14 := (hfr 14 (by decide) (by decide) (by decide) (by decide)).trans hw14
    refine xr_aload_n C 0 d_Rn_run_90 rfl hq0 ?_
    refine xr_aload_n C 0 d_Rn_run_91 rfl hq0 ?_
    refine xr_iload C d_Rn_run_92 hq5 ?_
    refine xr_callV (k9 := 19) C (m_Rn_canStep hT1 hn hal (fun r hr => (hR1 r hr).1) 31 (x := (x : Int)) hCT1 hw19 hw12 hw13 hw20 hw21 hF hw22 hβ (by omega) (fun _ => by rw [Int.toNat_natCast]; have := (hT1.2.1 x hxN).2.2.2.2.2; omega)) xm_Rn_62 x2_Rn_canStep hw19 (by decide) rfl (by decide) (by decide) (Nat.le_of_ble_eq_true rfl) rfl d_Rn_run_94 (fun En n9 ad9 w9 hx9 => hx9.elim) (fun v n9 ad9 w9 hp => ?_)
    obtain ⟨rfl, rfl, z, rfl, rfl, ⟨fo1, hw21', hF', hk1, hk2⟩, ⟨γ, hw22', hγ⟩, hfr'⟩ := hp
    have hw1 := (hfr' 1 (by decide) (by decide)).trans hw1
    have hw12 := (hfr' 12 (by decide) (by decide)).trans hw12
    have hw13 := (hfr' 13 (by decide) (by decide)).trans hw13
    have hw14 := (hfr' 14 (by decide) (by decide)).trans hw14
    have hw19 := (hfr' 19 (by decide) (by decide)).trans hw19
    have hw20 := (hfr' 20 (by decide) (by decide)).trans hw20
    have hw23 := (hfr' 23 (by decide) (by decide)).trans hw23
    have hw24 := (hfr' 24 (by decide) (by decide)).trans hw24
    have hw25 := (hfr' 25 (by decide) (by decide)).trans hw25
    have hw26 := (hfr' 26 (by decide) (by decide)).trans hw26
    rw [fnI_n]
    show XW _ _ _ _ _ _ 97 _ (_ :: _)
    refine xr_put (k := 19) C xf_Rn_41 hw19 (by decide) xb_nar xb_fit (Nat.le_of_ble_eq_true rfl) d_Rn_run_97 ?_
    refine xr_iload C d_Rn_run_100 hq5 ?_
    exact xr_iret C E ⟨rfl, rfl, _, rfl, S1, acc, f, hres, hT1, hx1, by omega, by omega, ct_fr hCT1 (fun k a b => (va_ne (by omega)).trans (hfr' k (by omega) (by omega))), ⟨⟨sp, pz, lz, (acc.length : Int), _, rfl⟩, ⟨al, hw20⟩, ⟨fo1, hw21'⟩, ⟨γ, hw22', hγ⟩, ⟨ar, hw23⟩, ⟨is, hw24⟩⟩, fun _ => ⟨sp, pz, lz, by rw [Int.toNat_natCast]; rfl⟩, hw25, hw26, hRW, fun k a b c d => (va_ne (by omega)).trans ((hfr' k (by omega) (by omega)).trans (hfr k a b c d))⟩ (by decide) (by decide) d_Rn_run_102
  have lp : ∀ (al : Nat → Int), (∀ r, r < n → al r = xb ((usS co ch an le9 only) r)) → ∀ (m : Nat) (S1 : xS) (x : Nat) (acc : List (Nat × Nat × Nat × Nat)) (w1 : Nat → va_E) (sp pz lz : Int) (mo : Bool) (fo β ar is f : Nat → Int) (lv : Nat → Option Value), runS n rl rr (usS co ch an le9 only) m S1 x acc = runS n rl rr (usS co ch an le9 only) most S t [] → acc.length + m = most → Tb S1 → xt S S1 → CT ad cA w1 S1 → x < sN S1 → w1 19 = rnO ad sp pz lz (acc.length : Int) mo → w1 20 = xIA (cA 1) 16 al → w1 21 = xIA (cA 0) 300 fo → FN S1 (lowR S1 n rl (usS co ch an le9 only)) fo → w1 22 = xIA (cA 0) 6 β → (∀ h, -1 ≤ β h ∧ β h < 300) → w1 23 = xIA (cA 0) 30 ar → w1 24 = xIA (cA 1) 30 is → w1 25 = roO ad 25 ((min 200 acc.length : Nat) : Int) → w1 26 = xIA (cA 0) 800 f → RWS f acc → (∀ k, (k < 1 ∨ 11 < k) → (k < 19 ∨ 24 < k) → k ≠ 25 → k ≠ 26 → w1 k = w k) → lv 0 = some (.ref (ad 19)) → lv 2 = some (.int (zI (most : Int))) → lv 4 = some (.ref (ad 25)) → lv 5 = some (.int (zI (x : Int))) → XW G 56 ad w1 0 0 19 lv [] := by
    intro al hal m
    induction m with
    | zero =>
      intro S1 x acc w1 sp pz lz mo fo β ar is f lv hres hm hT1 hx1 hCT1 hxN hw19 hw20 hw21 hF hw22 hβ hw23 hw24 hw25 hw26 hRW hfr hq0 hq2 hq4 hq5
      refine xr_aload_n C 0 d_Rn_run_19 rfl hq0 ?_
      refine xr_get (k := 19) C xg_Rn_38 hw19 (by decide) rfl d_Rn_run_20 ?_
      refine xr_iload_n C 2 d_Rn_run_23 rfl hq2 ?_
      refine xz_icmp_ge (tgt := 90) C d_Rn_run_24 (by decide) (by omega) (by omega) (fun c24 => ?_) (fun c24 => by exfalso; omega)
      exact J al hal S1 x acc _ sp pz lz mo fo β ar is f _ hres hT1 hx1 hCT1 hxN hw19 hw20 hw21 hF hw22 hβ hw23 hw24 hw25 hw26 hRW hfr hq0 hq2 hq4 hq5
    | succ m ih =>
      intro S1 x acc w1 sp pz lz mo fo β ar is f lv hres hm hT1 hx1 hCT1 hxN hw19 hw20 hw21 hF hw22 hβ hw23 hw24 hw25 hw26 hRW hfr hq0 hq2 hq4 hq5
      have hN1 := hT1.1
      have hR1 := rg_xt hx1 hR
      obtain ⟨mk, fs, sn, wt, pl, dp, ho, hc, nw, od, hw1, hw2, hw3, hw4, hw5, hw6, hw7, hw8, hw9, hw10, hw11, hC⟩ := id hCT1
      have hw12 := (hfr 12 (by decide) (by decide) (by decide) (by decide)).trans hw12
      have hw13 := (hfr 13 (by decide) (by decide) (by decide) (by decide)).trans hw13
      have hw14 := (hfr 14 (by decide) (by decide) (by decide) (by decide)).trans hw14
      refine xr_aload_n C 0 d_Rn_run_19 rfl hq0 ?_
      refine xr_get (k := 19) C xg_Rn_38 hw19 (by decide) rfl d_Rn_run_20 ?_
      refine xr_iload_n C 2 d_Rn_run_23 rfl hq2 ?_
      refine xz_icmp_ge (tgt := 90) C d_Rn_run_24 (by decide) (by omega) (by omega) (fun c24 => by exfalso; omega) (fun c24 => ?_)
      refine xr_aload_n C 0 d_Rn_run_27 rfl hq0 ?_
      refine xr_iload C d_Rn_run_28 hq5 ?_
      refine xr_callV (k9 := 19) C (m_Rn_canStep hT1 hn hal (fun r hr => (hR1 r hr).1) 31 (x := (x : Int)) hCT1 hw19 hw12 hw13 hw20 hw21 hF hw22 hβ (by omega) (fun _ => by rw [Int.toNat_natCast]; have := (hT1.2.1 x hxN).2.2.2.2.2; omega)) xm_Rn_62 x2_Rn_canStep hw19 (by decide) rfl (by decide) (by decide) (Nat.le_of_ble_eq_true rfl) rfl d_Rn_run_30 (fun En n9 ad9 w9 hx9 => hx9.elim) (fun v n9 ad9 w9 hp => ?_)
      obtain ⟨rfl, rfl, z, rfl, rfl, ⟨fo1, hw21', hF', hk1, hk2⟩, ⟨γ, hw22', hγ⟩, hfr'⟩ := hp
      have hw1 := (hfr' 1 (by decide) (by decide)).trans hw1
      have hw12 := (hfr' 12 (by decide) (by decide)).trans hw12
      have hw13 := (hfr' 13 (by decide) (by decide)).trans hw13
      have hw14 := (hfr' 14 (by decide) (by decide)).trans hw14
      have hw19 := (hfr' 19 (by decide) (by decide)).trans hw19
      have hw20 := (hfr' 20 (by decide) (by decide)).trans hw20
      have hw23 := (hfr' 23 (by decide) (by decide)).trans hw23
      have hw24 := (hfr' 24 (by decide) (by decide)).trans hw24
      have hw25 := (hfr' 25 (by decide) (by decide)).trans hw25
      have hw26 := (hfr' 26 (by decide) (by decide)).trans hw26
      rw [fnI_n]
      show XW _ _ _ _ _ _ 33 _ (_ :: _)
      refine xb_if_eq (tgt := 90) C d_Rn_run_33 (by decide)  (fun c33 => ?_) (fun c33 => ?_)
      · skip
        have hcs9 : fnS S1 (lowR S1 n rl (usS co ch an le9 only)) x = -1 := by simpa using of_decide_eq_false c33
        rw [run_0 hcs9] at hres
        first
          | exact J al hal S1 x acc _ sp pz lz mo fo β ar is f _ hres hT1 hx1 hCT1 hxN hw19 hw20 hw21 hF hw22 hβ hw23 hw24 hw25 hw26 hRW hfr hq0 hq2 hq4 hq5
          | exact J al hal S1 x acc _ sp pz lz mo fo1 γ ar is f _ hres hT1 hx1 (ct_fr hCT1 (fun k a b => hfr' k (by omega) (by omega))) hxN hw19 hw20 hw21' hF' hw22' hγ hw23 hw24 hw25 hw26 hRW (fun k a b c d => (hfr' k (by omega) (by omega)).trans (hfr k a b c d)) hq0 hq2 hq4 hq5
      · skip
        have hcs9 : fnS S1 (lowR S1 n rl (usS co ch an le9 only)) x ≠ -1 := of_decide_eq_true c33
        refine xr_aload_n C 0 d_Rn_run_36 rfl hq0 ?_
        refine xr_iload C d_Rn_run_37 hq5 ?_
        refine xr_callV (k9 := 19) C (m_Rn_step (ct_fr hCT1 (fun k a b => hfr' k (by omega) (by omega))) hT1 hw19 hn hw12 hw13 hw14 hw20 hal hR1 hw21' hF' hw22' hγ hw23 hw24 hxN (by have := hk1 (by omega); rw [Int.toNat_natCast] at this; exact this) hcs9) xm_Rn_66 x2_Rn_step hw19 (by decide) rfl (by decide) (by decide) (Nat.le_of_ble_eq_true rfl) rfl d_Rn_run_39 (fun En n9 ad9 w9 hx9 => hx9.elim) (fun v n9 ad9 w9 hp => ?_)
        obtain ⟨rfl, rfl, z, rfl, S2, fo2, δ, ar2, is2, e2, hCT2, hw19, hw21', hF2, hfx, hw22'', hδ, hw23, hw24, hfr2⟩ := hp
        obtain ⟨hT2, hx2, hz2, hz2N⟩ := stp_ok hT1 hR1 hxN hcs9 e2
        have hN2 := hT2.1
        have hNN2 := hx2.1
        obtain ⟨g1, g2, g3, g4, g5, g6, g7, g8, g9⟩ := stp_at (us := (usS co ch an le9 only)) hT1 hR1 hxN hcs9
        have hpos : (skT S1 n rl (usS co ch an le9 only) x).2.2 < (lyS S1 x).length := (List.getElem?_eq_some_iff.mp (PT_at hT1 hxN g1)).1
        have hw25 := (hfr2 25 (by omega) (by omega) (by omega) (by omega) (by omega) (by omega)).trans hw25
        have hw26 := (hfr2 26 (by omega) (by omega) (by omega) (by omega) (by omega) (by omega)).trans hw26
        have hw20 := (hfr2 20 (by omega) (by omega) (by omega) (by omega) (by omega) (by omega)).trans hw20
        have hfr3 : ∀ k, (k < 1 ∨ 11 < k) → (k < 19 ∨ 24 < k) → k ≠ 25 → k ≠ 26 → w9 k = w k := fun k a b c d => (hfr2 k a (by omega) (by omega) (by omega) (by omega) (by omega)).trans ((hfr' k (by omega) (by omega)).trans (hfr k a b c d))
        obtain ⟨w8, hw8e⟩ : ∃ q, q = w9 := ⟨w9, rfl⟩
        subst hw8e
        show XW _ _ _ _ _ _ 42 _ (_ :: _)
        refine xr_istore C d_Rn_run_42 (by decide) ?_
        refine xr_iload C d_Rn_run_44 rfl ?_
        refine xz_if_ge (tgt := 51) C d_Rn_run_46 (by decide) (by omega) (fun c46 => ?_) (fun c46 => ?_)
        · skip
          have hres : runS n rl rr (usS co ch an le9 only) m S2 z.toNat (acc ++ [(ruT S1 n rl (usS co ch an le9 only) x, (skT S1 n rl (usS co ch an le9 only) x).2.2, x, z.toNat)]) = _ := (run_g hcs9 e2 (by omega)).symm.trans hres
          refine xr_aload C d_Rn_run_51 hq4 ?_
          refine xr_aload_n C 0 d_Rn_run_53 rfl hq0 ?_
          refine xr_get (k := 19) C xg_Rn_15 hw19 (by decide) rfl d_Rn_run_54 ?_
          refine xr_aload_n C 0 d_Rn_run_57 rfl hq0 ?_
          refine xr_get (k := 19) C xg_Rn_22 hw19 (by decide) rfl d_Rn_run_58 ?_
          refine xj_iald (k := 21) C ((skT S1 n rl (usS co ch an le9 only) x).2.1) (by omega) hw21' (by decide) (by omega) (by decide) d_Rn_run_61 ?_
          refine xr_eqz (y := (ruT S1 n rl (usS co ch an le9 only) x : Int)) hfx ?_
          refine xr_aload_n C 0 d_Rn_run_62 rfl hq0 ?_
          refine xr_get (k := 19) C xg_Rn_26 hw19 (by decide) rfl d_Rn_run_63 ?_
          refine xr_iload C d_Rn_run_66 hq5 ?_
          refine xr_iload C d_Rn_run_68 rfl ?_
          refine xr_eqz (y := (z.toNat : Int)) (by omega) ?_
          refine xr_callV (k9 := 25) C (m_Ro_add_25 (n := min 200 acc.length) (by omega) hw25 hw26 (x := (ruT S1 n rl (usS co ch an le9 only) x : Int)) (y := ((skT S1 n rl (usS co ch an le9 only) x).2.2 : Int)) (u := (x : Int)) (v := (z.toNat : Int))) xm_Rn_70 x2_Ro_add hw25 (by decide) rfl (by decide) (by decide) (Nat.le_of_ble_eq_true rfl) rfl d_Rn_run_70 (fun En n9 ad9 w9 hx9 => hx9.elim) (fun v n9 ad9 w9 hp => ?_)
          obtain ⟨rfl, rfl, rfl, hwA⟩ := hp
          have hw19 : w9 19 = rnO ad ((skT S1 n rl (usS co ch an le9 only) x).2.1 : Int) ((skT S1 n rl (usS co ch an le9 only) x).2.2 : Int) ((skT S1 n rl (usS co ch an le9 only) x).1.length : Int) (acc.length : Int) mo := by
            rw [hwA]
            split
            · exact (va_ne (by decide)).trans ((va_ne (by decide)).trans hw19)
            · exact hw19
          refine xr_iload C d_Rn_run_73 rfl ?_
          refine xr_istore C d_Rn_run_75 (by decide) ?_
          refine xr_aload_n C 0 d_Rn_run_77 rfl hq0 ?_
          refine xr_dup C rfl d_Rn_run_78 ?_
          refine xr_get (k := 19) C xg_Rn_38 hw19 (by decide) rfl d_Rn_run_79 ?_
          refine xr_iconst C d_Rn_run_82 ?_
          refine xz_iadd C d_Rn_run_83 ?_
          refine xr_eqz (y := ((acc ++ [(ruT S1 n rl (usS co ch an le9 only) x, (skT S1 n rl (usS co ch an le9 only) x).2.2, x, z.toNat)]).length : Int)) (by rw [List.length_append]; rfl) ?_
          refine xr_put (k := 19) C xf_Rn_38 hw19 (by decide) rfl rfl (Nat.le_of_ble_eq_true rfl) d_Rn_run_84 ?_
          refine xr_goto (tgt := 19) C d_Rn_run_87 (by decide) ?_
          have hfA : ∀ k, k ≠ 25 → k ≠ 26 → w9 k = w8 k := fun k a b => by
            rw [hwA]
            split
            · exact (va_ne a).trans (va_ne b)
            · rfl
          have hoA : ∃ f', w9 25 = roO ad 25 ((min 200 (acc ++ [(ruT S1 n rl (usS co ch an le9 only) x, (skT S1 n rl (usS co ch an le9 only) x).2.2, x, z.toNat)]).length : Nat) : Int) ∧ w9 26 = xIA (cA 0) 800 f' ∧ RWS f' (acc ++ [(ruT S1 n rl (usS co ch an le9 only) x, (skT S1 n rl (usS co ch an le9 only) x).2.2, x, z.toNat)]) := by
            by_cases q : acc.length < 200
            · rw [if_pos (by omega)] at hwA
              refine ⟨_, by rw [hwA, va_eq, List.length_append, List.length_singleton, show ((min 200 (acc.length + 1) : Nat) : Int) = ((min 200 acc.length : Nat) : Int) + 1 by omega], by rw [hwA, va_ne (by decide), va_eq], ?_⟩
              rw [show min 200 acc.length = acc.length by omega]
              exact RWS_add hRW q
            · rw [if_neg (by omega)] at hwA
              refine ⟨f, by rw [hwA, hw25, List.length_append, List.length_singleton, show min 200 (acc.length + 1) = min 200 acc.length by omega], by rw [hwA]; exact hw26, RWS_full hRW q⟩
          obtain ⟨f', hwK, hwK1, hRW'⟩ := hoA
          exact ih S2 z.toNat (acc ++ [(ruT S1 n rl (usS co ch an le9 only) x, (skT S1 n rl (usS co ch an le9 only) x).2.2, x, z.toNat)]) _ _ _ _ mo fo2 δ ar2 is2 f' _ hres (by rw [List.length_append, List.length_singleton]; omega) hT2 (xt_trans hx1 hx2) (ct_fr hCT2 (fun k a b => (va_ne (by omega)).trans (hfA k (by omega) (by omega)))) (by omega) rfl (by exact (hfA 20 (by decide) (by decide)).trans hw20) (by exact (hfA 21 (by decide) (by decide)).trans hw21') (FN_xt hT1 hx2 (fun r hr => ⟨(hR1 r hr).1.1, (hR1 r hr).1.2.1⟩) hF2 hN2) (by exact (hfA 22 (by decide) (by decide)).trans hw22'') hδ (by exact (hfA 23 (by decide) (by decide)).trans hw23) (by exact (hfA 24 (by decide) (by decide)).trans hw24) (by exact hwK) (by exact hwK1) hRW' (by exact fun k a b c d => (va_ne (by omega)).trans ((hfA k c d).trans (hfr3 k a b c d))) hq0 hq2 hq4 (by show some (Value.int (zI z)) = _; rw [show ((z.toNat : Nat) : Int) = z by omega])
        · skip
          have hres : (-1, S2, acc) = _ := (run_f hcs9 e2 (by omega)).symm.trans hres
          refine xr_iconst C d_Rn_run_49 ?_
          exact xr_iret C E ⟨rfl, rfl, _, rfl, S2, acc, f, hres, hT2, xt_trans hx1 hx2, by omega, by omega, hCT2, ⟨⟨_, _, _, _, _, hw19⟩, ⟨al, hw20⟩, ⟨fo2, hw21'⟩, ⟨δ, hw22'', hδ⟩, ⟨ar2, hw23⟩, ⟨is2, hw24⟩⟩, fun q => absurd q (by omega), hw25, hw26, hRW, hfr3⟩ (by decide) (by decide) d_Rn_run_50
  refine xr_aload_n C 0 d_Rn_run_0 rfl rfl ?_
  refine xr_iload_n C 3 d_Rn_run_1 rfl rfl ?_
  refine xr_callV (k9 := 19) C (m_Rn_begin hw19 hn hw12 hw15 hw16 hw17 hw18 hw20 hco hch hle han hw21 (only := only)) xm_Rn_53 x2_Rn_begin hw19 (by decide) rfl (by decide) (by decide) (Nat.le_of_ble_eq_true rfl) rfl d_Rn_run_2 (fun En n9 ad9 w9 hx9 => hx9.elim) (fun v n9 ad9 w9 hp => ?_)
  obtain ⟨rfl, rfl, rfl, fo, al, hw21', hfo, hw20', hal, hfr⟩ := hp
  have hw19 := (hfr 19 (by decide) (by decide)).trans hw19
  have hw25 := (hfr 25 (by decide) (by decide)).trans hw25
  have hw26 := (hfr 26 (by decide) (by decide)).trans hw26
  refine xr_aload C d_Rn_run_5 rfl ?_
  refine xr_iconst C d_Rn_run_7 ?_
  refine xr_put (k := 25) C xf_Rn_57 hw25 (by decide) rfl rfl (Nat.le_of_ble_eq_true rfl) d_Rn_run_8 ?_
  refine xr_aload_n C 0 d_Rn_run_11 rfl rfl ?_
  refine xr_iconst C d_Rn_run_12 ?_
  refine xr_put (k := 19) C xf_Rn_38 hw19 (by decide) rfl rfl (Nat.le_of_ble_eq_true rfl) d_Rn_run_13 ?_
  refine xr_iload_n C 1 d_Rn_run_16 rfl rfl ?_
  refine xr_istore C d_Rn_run_17 (by decide) ?_
  exact lp al hal most S t [] _ sp pz lz mo fo β0 ar0 is0 f0 _ rfl (by rw [List.length_nil]; omega) hT (xt_refl S) (ct_fr hCT (fun k a b => (va_ne (by omega)).trans ((va_ne (by omega)).trans (hfr k (by omega) (by omega))))) ht rfl hw20' hw21' ⟨fun j hj => Or.inl (hfo j hj), fun j hj q => by have := hfo j (by have := hT.1; omega); omega⟩ ((hfr 22 (by decide) (by decide)).trans hw22) hβ0 ((hfr 23 (by decide) (by decide)).trans hw23) ((hfr 24 (by decide) (by decide)).trans hw24) rfl hw26 (fun i r p a b hi hg => by simp at hg) (fun k a b c d => (va_ne (by omega)).trans ((va_ne (by omega)).trans (hfr k (by omega) (by omega)))) rfl rfl rfl rfl
set_option maxHeartbeats 4000000 in
set_option maxRecDepth 100000 in
theorem m_Rn_run_27 {L : Launch} {D : va_G} {cA : Nat → ClassId} {base : Nat} {ad : Nat → Nat} {w : Nat → va_E} {S : xS} (hCT : CT ad cA w S) (hT : Tb S) (hS : RSC ad cA w) {n : Nat} {rl rr co le9 ch an : Nat → Int} (hn : n ≤ 16) (hw12 : w 12 = ruO ad (n : Int)) (hw13 : w 13 = xIA (cA 0) 16 rl) (hw14 : w 14 = xIA (cA 0) 16 rr) (hw15 : w 15 = xIA (cA 0) 16 co) (hw16 : w 16 = xIA (cA 1) 16 le9) (hw17 : w 17 = xIA (cA 1) 16 ch) (hw18 : w 18 = xIA (cA 0) 10 an) (hco : ∀ j, -1 ≤ co j ∧ co j < 10) (hch : ∀ j, ch j = 0 ∨ ch j = 1) (hle : ∀ j, le9 j = 0 ∨ le9 j = 1) (han : ∀ j, 0 ≤ an j ∧ an j ≤ 2) (hR : RG S n rl rr) {only : Bool} {most t : Nat} (hmo : most ≤ 1000) (ht : t < sN S) {sz : Int} {f0 : Nat → Int} (hw27 : w 27 = roO ad 27 sz) (hw28 : w 28 = xIA (cA 0) 800 f0) : XM L D cA base y_Rn_run c_Rn_run 7 (some .int) (xrm 68 0 0) [.ref (ad 19), .int (zI (t : Int)), .int (zI (most : Int)), .int (zI (xb only)), .ref (ad 27)] 56 ad w (xRet 56 ad (fun z w' => ∃ (S' : xS) (acc : List (Nat × Nat × Nat × Nat)) (f : Nat → Int), (z, S', acc) = runS n rl rr (usS co ch an le9 only) most S t [] ∧ Tb S' ∧ xt S S' ∧ -1 ≤ z ∧ z < sN S' ∧ CT ad cA w' S' ∧ RSC ad cA w' ∧ (0 ≤ z → ∃ sp pz lz : Int, w' 19 = rnO ad sp pz lz (acc.length : Int) (decide (fnS S' (lowR S' n rl (usS co ch an le9 only)) z.toNat ≠ -1))) ∧ w' 27 = roO ad 27 ((min 200 acc.length : Nat) : Int) ∧ w' 28 = xIA (cA 0) 800 f ∧ RWS f acc ∧ (∀ k, (k < 1 ∨ 11 < k) → (k < 19 ∨ 24 < k) → k ≠ 27 → k ≠ 28 → w' k = w k))) xF := by
  refine xm_of (by decide +kernel) (by simp [Value.category]) (Nat.le_of_ble_eq_true rfl) (fun G C E _ => ?_)
  obtain ⟨⟨sp, pz, lz, md, mo, hw19⟩, ⟨al0, hw20⟩, ⟨fo0, hw21⟩, ⟨β0, hw22, hβ0⟩, ⟨ar0, hw23⟩, ⟨is0, hw24⟩⟩ := hS
  have J : ∀ (al : Nat → Int), (∀ r, r < n → al r = xb ((usS co ch an le9 only) r)) → ∀ (S1 : xS) (x : Nat) (acc : List (Nat × Nat × Nat × Nat)) (w1 : Nat → va_E) (sp pz lz : Int) (mo : Bool) (fo β ar is f : Nat → Int) (lv : Nat → Option Value), ((x : Int), S1, acc) = runS n rl rr (usS co ch an le9 only) most S t [] → Tb S1 → xt S S1 → CT ad cA w1 S1 → x < sN S1 → w1 19 = rnO ad sp pz lz (acc.length : Int) mo → w1 20 = xIA (cA 1) 16 al → w1 21 = xIA (cA 0) 300 fo → FN S1 (lowR S1 n rl (usS co ch an le9 only)) fo → w1 22 = xIA (cA 0) 6 β → (∀ h, -1 ≤ β h ∧ β h < 300) → w1 23 = xIA (cA 0) 30 ar → w1 24 = xIA (cA 1) 30 is → w1 27 = roO ad 27 ((min 200 acc.length : Nat) : Int) → w1 28 = xIA (cA 0) 800 f → RWS f acc → (∀ k, (k < 1 ∨ 11 < k) → (k < 19 ∨ 24 < k) → k ≠ 27 → k ≠ 28 → w1 k = w k) → lv 0 = some (.ref (ad 19)) → lv 2 = some (.int (zI (most : Int))) → lv 4 = some (.ref (ad 27)) → lv 5 = some (.int (zI (x : Int))) → XW G 56 ad w1 0 0 90 lv [] := by
    intro al hal S1 x acc w1 sp pz lz mo fo β ar is f lv hres hT1 hx1 hCT1 hxN hw19 hw20 hw21 hF hw22 hβ hw23 hw24 hw27 hw28 hRW hfr hq0 hq2 hq4 hq5
    have hN1 := hT1.1
    have hR1 := rg_xt hx1 hR
    obtain ⟨mk, fs, sn, wt, pl, dp, ho, hc, nw, od, hw1, hw2, hw3, hw4, hw5, hw6, hw7, hw8, hw9, hw10, hw11, hC⟩ := id hCT1
    have hw12 := (hfr 12 (by decide) (by decide) (by decide) (by decide)).trans hw12
    have hw13 := (hfr 13 (by decide) (by decide) (by decide) (by decide)).trans hw13
    have hw14 := (hfr 14 (by decide) (by decide) (by decide) (by decide)).trans hw14
    refine xr_aload_n C 0 d_Rn_run_90 rfl hq0 ?_
    refine xr_aload_n C 0 d_Rn_run_91 rfl hq0 ?_
    refine xr_iload C d_Rn_run_92 hq5 ?_
    refine xr_callV (k9 := 19) C (m_Rn_canStep hT1 hn hal (fun r hr => (hR1 r hr).1) 31 (x := (x : Int)) hCT1 hw19 hw12 hw13 hw20 hw21 hF hw22 hβ (by omega) (fun _ => by rw [Int.toNat_natCast]; have := (hT1.2.1 x hxN).2.2.2.2.2; omega)) xm_Rn_62 x2_Rn_canStep hw19 (by decide) rfl (by decide) (by decide) (Nat.le_of_ble_eq_true rfl) rfl d_Rn_run_94 (fun En n9 ad9 w9 hx9 => hx9.elim) (fun v n9 ad9 w9 hp => ?_)
    obtain ⟨rfl, rfl, z, rfl, rfl, ⟨fo1, hw21', hF', hk1, hk2⟩, ⟨γ, hw22', hγ⟩, hfr'⟩ := hp
    have hw1 := (hfr' 1 (by decide) (by decide)).trans hw1
    have hw12 := (hfr' 12 (by decide) (by decide)).trans hw12
    have hw13 := (hfr' 13 (by decide) (by decide)).trans hw13
    have hw14 := (hfr' 14 (by decide) (by decide)).trans hw14
    have hw19 := (hfr' 19 (by decide) (by decide)).trans hw19
    have hw20 := (hfr' 20 (by decide) (by decide)).trans hw20
    have hw23 := (hfr' 23 (by decide) (by decide)).trans hw23
    have hw24 := (hfr' 24 (by decide) (by decide)).trans hw24
    have hw27 := (hfr' 27 (by decide) (by decide)).trans hw27
    have hw28 := (hfr' 28 (by decide) (by decide)).trans hw28
    rw [fnI_n]
    show XW _ _ _ _ _ _ 97 _ (_ :: _)
    refine xr_put (k := 19) C xf_Rn_41 hw19 (by decide) xb_nar xb_fit (Nat.le_of_ble_eq_true rfl) d_Rn_run_97 ?_
    refine xr_iload C d_Rn_run_100 hq5 ?_
    exact xr_iret C E ⟨rfl, rfl, _, rfl, S1, acc, f, hres, hT1, hx1, by omega, by omega, ct_fr hCT1 (fun k a b => (va_ne (by omega)).trans (hfr' k (by omega) (by omega))), ⟨⟨sp, pz, lz, (acc.length : Int), _, rfl⟩, ⟨al, hw20⟩, ⟨fo1, hw21'⟩, ⟨γ, hw22', hγ⟩, ⟨ar, hw23⟩, ⟨is, hw24⟩⟩, fun _ => ⟨sp, pz, lz, by rw [Int.toNat_natCast]; rfl⟩, hw27, hw28, hRW, fun k a b c d => (va_ne (by omega)).trans ((hfr' k (by omega) (by omega)).trans (hfr k a b c d))⟩ (by decide) (by decide) d_Rn_run_102
  have lp : ∀ (al : Nat → Int), (∀ r, r < n → al r = xb ((usS co ch an le9 only) r)) → ∀ (m : Nat) (S1 : xS) (x : Nat) (acc : List (Nat × Nat × Nat × Nat)) (w1 : Nat → va_E) (sp pz lz : Int) (mo : Bool) (fo β ar is f : Nat → Int) (lv : Nat → Option Value), runS n rl rr (usS co ch an le9 only) m S1 x acc = runS n rl rr (usS co ch an le9 only) most S t [] → acc.length + m = most → Tb S1 → xt S S1 → CT ad cA w1 S1 → x < sN S1 → w1 19 = rnO ad sp pz lz (acc.length : Int) mo → w1 20 = xIA (cA 1) 16 al → w1 21 = xIA (cA 0) 300 fo → FN S1 (lowR S1 n rl (usS co ch an le9 only)) fo → w1 22 = xIA (cA 0) 6 β → (∀ h, -1 ≤ β h ∧ β h < 300) → w1 23 = xIA (cA 0) 30 ar → w1 24 = xIA (cA 1) 30 is → w1 27 = roO ad 27 ((min 200 acc.length : Nat) : Int) → w1 28 = xIA (cA 0) 800 f → RWS f acc → (∀ k, (k < 1 ∨ 11 < k) → (k < 19 ∨ 24 < k) → k ≠ 27 → k ≠ 28 → w1 k = w k) → lv 0 = some (.ref (ad 19)) → lv 2 = some (.int (zI (most : Int))) → lv 4 = some (.ref (ad 27)) → lv 5 = some (.int (zI (x : Int))) → XW G 56 ad w1 0 0 19 lv [] := by
    intro al hal m
    induction m with
    | zero =>
      intro S1 x acc w1 sp pz lz mo fo β ar is f lv hres hm hT1 hx1 hCT1 hxN hw19 hw20 hw21 hF hw22 hβ hw23 hw24 hw27 hw28 hRW hfr hq0 hq2 hq4 hq5
      refine xr_aload_n C 0 d_Rn_run_19 rfl hq0 ?_
      refine xr_get (k := 19) C xg_Rn_38 hw19 (by decide) rfl d_Rn_run_20 ?_
      refine xr_iload_n C 2 d_Rn_run_23 rfl hq2 ?_
      refine xz_icmp_ge (tgt := 90) C d_Rn_run_24 (by decide) (by omega) (by omega) (fun c24 => ?_) (fun c24 => by exfalso; omega)
      exact J al hal S1 x acc _ sp pz lz mo fo β ar is f _ hres hT1 hx1 hCT1 hxN hw19 hw20 hw21 hF hw22 hβ hw23 hw24 hw27 hw28 hRW hfr hq0 hq2 hq4 hq5
    | succ m ih =>
      intro S1 x acc w1 sp pz lz mo fo β ar is f lv hres hm hT1 hx1 hCT1 hxN hw19 hw20 hw21 hF hw22 hβ hw23 hw24 hw27 hw28 hRW hfr hq0 hq2 hq4 hq5
      have hN1 := hT1.1
      have hR1 := rg_xt hx1 hR
      obtain ⟨mk, fs, sn, wt, pl, dp, ho, hc, nw, od, hw1, hw2, hw3, hw4, hw5, hw6, hw7, hw8, hw9, hw10, hw11, hC⟩ := id hCT1
      have hw12 := (hfr 12 (by decide) (by decide) (by decide) (by decide)).trans hw12
      have hw13 := (hfr 13 (by decide) (by decide) (by decide) (by decide)).trans hw13
      have hw14 := (hfr 14 (by decide) (by decide) (by decide) (by decide)).trans hw14
      refine xr_aload_n C 0 d_Rn_run_19 rfl hq0 ?_
      refine xr_get (k := 19) C xg_Rn_38 hw19 (by decide) rfl d_Rn_run_20 ?_
      refine xr_iload_n C 2 d_Rn_run_23 rfl hq2 ?_
      refine xz_icmp_ge (tgt := 90) C d_Rn_run_24 (by decide) (by omega) (by omega) (fun c24 => by exfalso; omega) (fun c24 => ?_)
      refine xr_aload_n C 0 d_Rn_run_27 rfl hq0 ?_
      refine xr_iload C d_Rn_run_28 hq5 ?_
      refine xr_callV (k9 := 19) C (m_Rn_canStep hT1 hn hal (fun r hr => (hR1 r hr).1) 31 (x := (x : Int)) hCT1 hw19 hw12 hw13 hw20 hw21 hF hw22 hβ (by omega) (fun _ => by rw [Int.toNat_natCast]; have := (hT1.2.1 x hxN).2.2.2.2.2; omega)) xm_Rn_62 x2_Rn_canStep hw19 (by decide) rfl (by decide) (by decide) (Nat.le_of_ble_eq_true rfl) rfl d_Rn_run_30 (fun En n9 ad9 w9 hx9 => hx9.elim) (fun v n9 ad9 w9 hp => ?_)
      obtain ⟨rfl, rfl, z, rfl, rfl, ⟨fo1, hw21', hF', hk1, hk2⟩, ⟨γ, hw22', hγ⟩, hfr'⟩ := hp
      have hw1 := (hfr' 1 (by decide) (by decide)).trans hw1
      have hw12 := (hfr' 12 (by decide) (by decide)).trans hw12
      have hw13 := (hfr' 13 (by decide) (by decide)).trans hw13
      have hw14 := (hfr' 14 (by decide) (by decide)).trans hw14
      have hw19 := (hfr' 19 (by decide) (by decide)).trans hw19
      have hw20 := (hfr' 20 (by decide) (by decide)).trans hw20
      have hw23 := (hfr' 23 (by decide) (by decide)).trans hw23
      have hw24 := (hfr' 24 (by decide) (by decide)).trans hw24
      have hw27 := (hfr' 27 (by decide) (by decide)).trans hw27
      have hw28 := (hfr' 28 (by decide) (by decide)).trans hw28
      rw [fnI_n]
      show XW _ _ _ _ _ _ 33 _ (_ :: _)
      refine xb_if_eq (tgt := 90) C d_Rn_run_33 (by decide)  (fun c33 => ?_) (fun c33 => ?_)
      · skip
        have hcs9 : fnS S1 (lowR S1 n rl (usS co ch an le9 only)) x = -1 := by simpa using of_decide_eq_false c33
        rw [run_0 hcs9] at hres
        first
          | exact J al hal S1 x acc _ sp pz lz mo fo β ar is f _ hres hT1 hx1 hCT1 hxN hw19 hw20 hw21 hF hw22 hβ hw23 hw24 hw27 hw28 hRW hfr hq0 hq2 hq4 hq5
          | exact J al hal S1 x acc _ sp pz lz mo fo1 γ ar is f _ hres hT1 hx1 (ct_fr hCT1 (fun k a b => hfr' k (by omega) (by omega))) hxN hw19 hw20 hw21' hF' hw22' hγ hw23 hw24 hw27 hw28 hRW (fun k a b c d => (hfr' k (by omega) (by omega)).trans (hfr k a b c d)) hq0 hq2 hq4 hq5
      · skip
        have hcs9 : fnS S1 (lowR S1 n rl (usS co ch an le9 only)) x ≠ -1 := of_decide_eq_true c33
        refine xr_aload_n C 0 d_Rn_run_36 rfl hq0 ?_
        refine xr_iload C d_Rn_run_37 hq5 ?_
        refine xr_callV (k9 := 19) C (m_Rn_step (ct_fr hCT1 (fun k a b => hfr' k (by omega) (by omega))) hT1 hw19 hn hw12 hw13 hw14 hw20 hal hR1 hw21' hF' hw22' hγ hw23 hw24 hxN (by have := hk1 (by omega); rw [Int.toNat_natCast] at this; exact this) hcs9) xm_Rn_66 x2_Rn_step hw19 (by decide) rfl (by decide) (by decide) (Nat.le_of_ble_eq_true rfl) rfl d_Rn_run_39 (fun En n9 ad9 w9 hx9 => hx9.elim) (fun v n9 ad9 w9 hp => ?_)
        obtain ⟨rfl, rfl, z, rfl, S2, fo2, δ, ar2, is2, e2, hCT2, hw19, hw21', hF2, hfx, hw22'', hδ, hw23, hw24, hfr2⟩ := hp
        obtain ⟨hT2, hx2, hz2, hz2N⟩ := stp_ok hT1 hR1 hxN hcs9 e2
        have hN2 := hT2.1
        have hNN2 := hx2.1
        obtain ⟨g1, g2, g3, g4, g5, g6, g7, g8, g9⟩ := stp_at (us := (usS co ch an le9 only)) hT1 hR1 hxN hcs9
        have hpos : (skT S1 n rl (usS co ch an le9 only) x).2.2 < (lyS S1 x).length := (List.getElem?_eq_some_iff.mp (PT_at hT1 hxN g1)).1
        have hw27 := (hfr2 27 (by omega) (by omega) (by omega) (by omega) (by omega) (by omega)).trans hw27
        have hw28 := (hfr2 28 (by omega) (by omega) (by omega) (by omega) (by omega) (by omega)).trans hw28
        have hw20 := (hfr2 20 (by omega) (by omega) (by omega) (by omega) (by omega) (by omega)).trans hw20
        have hfr3 : ∀ k, (k < 1 ∨ 11 < k) → (k < 19 ∨ 24 < k) → k ≠ 27 → k ≠ 28 → w9 k = w k := fun k a b c d => (hfr2 k a (by omega) (by omega) (by omega) (by omega) (by omega)).trans ((hfr' k (by omega) (by omega)).trans (hfr k a b c d))
        obtain ⟨w8, hw8e⟩ : ∃ q, q = w9 := ⟨w9, rfl⟩
        subst hw8e
        show XW _ _ _ _ _ _ 42 _ (_ :: _)
        refine xr_istore C d_Rn_run_42 (by decide) ?_
        refine xr_iload C d_Rn_run_44 rfl ?_
        refine xz_if_ge (tgt := 51) C d_Rn_run_46 (by decide) (by omega) (fun c46 => ?_) (fun c46 => ?_)
        · skip
          have hres : runS n rl rr (usS co ch an le9 only) m S2 z.toNat (acc ++ [(ruT S1 n rl (usS co ch an le9 only) x, (skT S1 n rl (usS co ch an le9 only) x).2.2, x, z.toNat)]) = _ := (run_g hcs9 e2 (by omega)).symm.trans hres
          refine xr_aload C d_Rn_run_51 hq4 ?_
          refine xr_aload_n C 0 d_Rn_run_53 rfl hq0 ?_
          refine xr_get (k := 19) C xg_Rn_15 hw19 (by decide) rfl d_Rn_run_54 ?_
          refine xr_aload_n C 0 d_Rn_run_57 rfl hq0 ?_
          refine xr_get (k := 19) C xg_Rn_22 hw19 (by decide) rfl d_Rn_run_58 ?_
          refine xj_iald (k := 21) C ((skT S1 n rl (usS co ch an le9 only) x).2.1) (by omega) hw21' (by decide) (by omega) (by decide) d_Rn_run_61 ?_
          refine xr_eqz (y := (ruT S1 n rl (usS co ch an le9 only) x : Int)) hfx ?_
          refine xr_aload_n C 0 d_Rn_run_62 rfl hq0 ?_
          refine xr_get (k := 19) C xg_Rn_26 hw19 (by decide) rfl d_Rn_run_63 ?_
          refine xr_iload C d_Rn_run_66 hq5 ?_
          refine xr_iload C d_Rn_run_68 rfl ?_
          refine xr_eqz (y := (z.toNat : Int)) (by omega) ?_
          refine xr_callV (k9 := 27) C (m_Ro_add_27 (n := min 200 acc.length) (by omega) hw27 hw28 (x := (ruT S1 n rl (usS co ch an le9 only) x : Int)) (y := ((skT S1 n rl (usS co ch an le9 only) x).2.2 : Int)) (u := (x : Int)) (v := (z.toNat : Int))) xm_Rn_70 x2_Ro_add hw27 (by decide) rfl (by decide) (by decide) (Nat.le_of_ble_eq_true rfl) rfl d_Rn_run_70 (fun En n9 ad9 w9 hx9 => hx9.elim) (fun v n9 ad9 w9 hp => ?_)
          obtain ⟨rfl, rfl, rfl, hwA⟩ := hp
          have hw19 : w9 19 = rnO ad ((skT S1 n rl (usS co ch an le9 only) x).2.1 : Int) ((skT S1 n rl (usS co ch an le9 only) x).2.2 : Int) ((skT S1 n rl (usS co ch an le9 only) x).1.length : Int) (acc.length : Int) mo := by
            rw [hwA]
            split
            · exact (va_ne (by decide)).trans ((va_ne (by decide)).trans hw19)
            · exact hw19
          refine xr_iload C d_Rn_run_73 rfl ?_
          refine xr_istore C d_Rn_run_75 (by decide) ?_
          refine xr_aload_n C 0 d_Rn_run_77 rfl hq0 ?_
          refine xr_dup C rfl d_Rn_run_78 ?_
          refine xr_get (k := 19) C xg_Rn_38 hw19 (by decide) rfl d_Rn_run_79 ?_
          refine xr_iconst C d_Rn_run_82 ?_
          refine xz_iadd C d_Rn_run_83 ?_
          refine xr_eqz (y := ((acc ++ [(ruT S1 n rl (usS co ch an le9 only) x, (skT S1 n rl (usS co ch an le9 only) x).2.2, x, z.toNat)]).length : Int)) (by rw [List.length_append]; rfl) ?_
          refine xr_put (k := 19) C xf_Rn_38 hw19 (by decide) rfl rfl (Nat.le_of_ble_eq_true rfl) d_Rn_run_84 ?_
          refine xr_goto (tgt := 19) C d_Rn_run_87 (by decide) ?_
          have hfA : ∀ k, k ≠ 27 → k ≠ 28 → w9 k = w8 k := fun k a b => by
            rw [hwA]
            split
            · exact (va_ne a).trans (va_ne b)
            · rfl
          have hoA : ∃ f', w9 27 = roO ad 27 ((min 200 (acc ++ [(ruT S1 n rl (usS co ch an le9 only) x, (skT S1 n rl (usS co ch an le9 only) x).2.2, x, z.toNat)]).length : Nat) : Int) ∧ w9 28 = xIA (cA 0) 800 f' ∧ RWS f' (acc ++ [(ruT S1 n rl (usS co ch an le9 only) x, (skT S1 n rl (usS co ch an le9 only) x).2.2, x, z.toNat)]) := by
            by_cases q : acc.length < 200
            · rw [if_pos (by omega)] at hwA
              refine ⟨_, by rw [hwA, va_eq, List.length_append, List.length_singleton, show ((min 200 (acc.length + 1) : Nat) : Int) = ((min 200 acc.length : Nat) : Int) + 1 by omega], by rw [hwA, va_ne (by decide), va_eq], ?_⟩
              rw [show min 200 acc.length = acc.length by omega]
              exact RWS_add hRW q
            · rw [if_neg (by omega)] at hwA
              refine ⟨f, by rw [hwA, hw27, List.length_append, List.length_singleton, show min 200 (acc.length + 1) = min 200 acc.length by omega], by rw [hwA]; exact hw28, RWS_full hRW q⟩
          obtain ⟨f', hwK, hwK1, hRW'⟩ := hoA
          exact ih S2 z.toNat (acc ++ [(ruT S1 n rl (usS co ch an le9 only) x, (skT S1 n rl (usS co ch an le9 only) x).2.2, x, z.toNat)]) _ _ _ _ mo fo2 δ ar2 is2 f' _ hres (by rw [List.length_append, List.length_singleton]; omega) hT2 (xt_trans hx1 hx2) (ct_fr hCT2 (fun k a b => (va_ne (by omega)).trans (hfA k (by omega) (by omega)))) (by omega) rfl (by exact (hfA 20 (by decide) (by decide)).trans hw20) (by exact (hfA 21 (by decide) (by decide)).trans hw21') (FN_xt hT1 hx2 (fun r hr => ⟨(hR1 r hr).1.1, (hR1 r hr).1.2.1⟩) hF2 hN2) (by exact (hfA 22 (by decide) (by decide)).trans hw22'') hδ (by exact (hfA 23 (by decide) (by decide)).trans hw23) (by exact (hfA 24 (by decide) (by decide)).trans hw24) (by exact hwK) (by exact hwK1) hRW' (by exact fun k a b c d => (va_ne (by omega)).trans ((hfA k c d).trans (hfr3 k a b c d))) hq0 hq2 hq4 (by show some (Value.int (zI z)) = _; rw [show ((z.toNat : Nat) : Int) = z by omega])
        · skip
          have hres : (-1, S2, acc) = _ := (run_f hcs9 e2 (by omega)).symm.trans hres
          refine xr_iconst C d_Rn_run_49 ?_
          exact xr_iret C E ⟨rfl, rfl, _, rfl, S2, acc, f, hres, hT2, xt_trans hx1 hx2, by omega, by omega, hCT2, ⟨⟨_, _, _, _, _, hw19⟩, ⟨al, hw20⟩, ⟨fo2, hw21'⟩, ⟨δ, hw22'', hδ⟩, ⟨ar2, hw23⟩, ⟨is2, hw24⟩⟩, fun q => absurd q (by omega), hw27, hw28, hRW, hfr3⟩ (by decide) (by decide) d_Rn_run_50
  refine xr_aload_n C 0 d_Rn_run_0 rfl rfl ?_
  refine xr_iload_n C 3 d_Rn_run_1 rfl rfl ?_
  refine xr_callV (k9 := 19) C (m_Rn_begin hw19 hn hw12 hw15 hw16 hw17 hw18 hw20 hco hch hle han hw21 (only := only)) xm_Rn_53 x2_Rn_begin hw19 (by decide) rfl (by decide) (by decide) (Nat.le_of_ble_eq_true rfl) rfl d_Rn_run_2 (fun En n9 ad9 w9 hx9 => hx9.elim) (fun v n9 ad9 w9 hp => ?_)
  obtain ⟨rfl, rfl, rfl, fo, al, hw21', hfo, hw20', hal, hfr⟩ := hp
  have hw19 := (hfr 19 (by decide) (by decide)).trans hw19
  have hw27 := (hfr 27 (by decide) (by decide)).trans hw27
  have hw28 := (hfr 28 (by decide) (by decide)).trans hw28
  refine xr_aload C d_Rn_run_5 rfl ?_
  refine xr_iconst C d_Rn_run_7 ?_
  refine xr_put (k := 27) C xf_Rn_57 hw27 (by decide) rfl rfl (Nat.le_of_ble_eq_true rfl) d_Rn_run_8 ?_
  refine xr_aload_n C 0 d_Rn_run_11 rfl rfl ?_
  refine xr_iconst C d_Rn_run_12 ?_
  refine xr_put (k := 19) C xf_Rn_38 hw19 (by decide) rfl rfl (Nat.le_of_ble_eq_true rfl) d_Rn_run_13 ?_
  refine xr_iload_n C 1 d_Rn_run_16 rfl rfl ?_
  refine xr_istore C d_Rn_run_17 (by decide) ?_
  exact lp al hal most S t [] _ sp pz lz mo fo β0 ar0 is0 f0 _ rfl (by rw [List.length_nil]; omega) hT (xt_refl S) (ct_fr hCT (fun k a b => (va_ne (by omega)).trans ((va_ne (by omega)).trans (hfr k (by omega) (by omega))))) ht rfl hw20' hw21' ⟨fun j hj => Or.inl (hfo j hj), fun j hj q => by have := hfo j (by have := hT.1; omega); omega⟩ ((hfr 22 (by decide) (by decide)).trans hw22) hβ0 ((hfr 23 (by decide) (by decide)).trans hw23) ((hfr 24 (by decide) (by decide)).trans hw24) rfl hw28 (fun i r p a b hi hg => by simp at hg) (fun k a b c d => (va_ne (by omega)).trans ((va_ne (by omega)).trans (hfr k (by omega) (by omega)))) rfl rfl rfl rfl
