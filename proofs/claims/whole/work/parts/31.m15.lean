/-- which rules a run uses -/
def usS (co ch an le : Nat → Int) (only : Bool) (r : Nat) : Bool := decide (ch r = 1 ∧ (co r = -1 ∨ an (co r).toNat = 1)) && (decide (le r = 1) || !only)
set_option maxHeartbeats 4000000 in
set_option maxRecDepth 100000 in
theorem m_Rn_begin {L : Launch} {D : va_G} {cA : Nat → ClassId} {base : Nat} {ad : Nat → Nat} {w : Nat → va_E} {sp pl le md : Int} {mo : Bool} (hw19 : w 19 = rnO ad sp pl le md mo) {n : Nat} {co le9 ch an al : Nat → Int} (hn : n ≤ 16) (hw12 : w 12 = ruO ad (n : Int)) (hw15 : w 15 = xIA (cA 0) 16 co) (hw16 : w 16 = xIA (cA 1) 16 le9) (hw17 : w 17 = xIA (cA 1) 16 ch) (hw18 : w 18 = xIA (cA 0) 10 an) (hw20 : w 20 = xIA (cA 1) 16 al) (hco : ∀ j, -1 ≤ co j ∧ co j < 10) (hch : ∀ j, ch j = 0 ∨ ch j = 1) (hle : ∀ j, le9 j = 0 ∨ le9 j = 1) (han : ∀ j, 0 ≤ an j ∧ an j ≤ 2) {fo : Nat → Int} (hw21 : w 21 = xIA (cA 0) 300 fo) {only : Bool} : XM L D cA base y_Rn_begin c_Rn_begin 3 none (xrm 1 0 0) [.ref (ad 19), .int (zI (xb only))] 56 ad w (xVoid 56 ad (fun w' => ∃ fo al : Nat → Int, w' 21 = xIA (cA 0) 300 fo ∧ (∀ j, j < 300 → fo j = -3) ∧ w' 20 = xIA (cA 1) 16 al ∧ (∀ r, r < n → al r = xb (usS co ch an le9 only r)) ∧ ∀ k, k ≠ 20 → k ≠ 21 → w' k = w k)) xF := by
  refine xm_of (by decide +kernel) (by simp [Value.category]) (Nat.le_of_ble_eq_true rfl) (fun G C E _ => ?_)
  have lp : ∀ (fo : Nat → Int), (∀ j, j < 300 → fo j = -3) → ∀ (m i : Nat) (w1 : Nat → va_E) (al : Nat → Int) (lv : Nat → Option Value), n + 1 ≤ i + m → i ≤ n → w1 20 = xIA (cA 1) 16 al → w1 21 = xIA (cA 0) 300 fo → (∀ r, r < i → al r = xb (usS co ch an le9 only r)) → (∀ k, k ≠ 20 → k ≠ 21 → w1 k = w k) → lv 0 = some (.ref (ad 19)) → lv 1 = some (.int (zI (xb only))) → lv 2 = some (.int (zI (i : Int))) → XW G 56 ad w1 0 0 11 lv [] := by
    intro fo hfo m
    induction m with
    | zero => intro i w1 al lv h1 h2; exact absurd h1 (by omega)
    | succ m ih =>
      intro i w1 al lv h1 h2 hw20 hw21 hal hfr hq0 hq1 hq2
      have hw12 := (hfr 12 (by decide) (by decide)).trans hw12
      have hw15 := (hfr 15 (by decide) (by decide)).trans hw15
      have hw16 := (hfr 16 (by decide) (by decide)).trans hw16
      have hw17 := (hfr 17 (by decide) (by decide)).trans hw17
      have hw18 := (hfr 18 (by decide) (by decide)).trans hw18
      have hw19 := (hfr 19 (by decide) (by decide)).trans hw19
      refine xr_iload_n C 2 d_Rn_begin_11 rfl hq2 ?_
      refine xr_aload_n C 0 d_Rn_begin_12 rfl hq0 ?_
      refine xr_get (k := 19) C xg_Rn_49 hw19 (by decide) rfl d_Rn_begin_13 ?_
      refine xr_get (k := 12) C xg_Rn_80 hw12 (by decide) rfl d_Rn_begin_16 ?_
      refine xz_icmp_ge (tgt := 66) C d_Rn_begin_19 (by decide) (by omega) (by omega) (fun c19 => ?_) (fun c19 => ?_)
      · skip
        exact xr_vret C E ⟨rfl, rfl, rfl, fo, al, hw21, hfo, hw20, fun r hr => hal r (by omega), hfr⟩ (by decide) (by decide) d_Rn_begin_66
      · skip
        refine xr_aload_n C 0 d_Rn_begin_22 rfl hq0 ?_
        refine xr_get (k := 19) C xg_Rn_9 hw19 (by decide) rfl d_Rn_begin_23 ?_
        refine xr_iload_n C 2 d_Rn_begin_26 rfl hq2 ?_
        refine xr_aload_n C 0 d_Rn_begin_27 rfl hq0 ?_
        refine xr_get (k := 19) C xg_Rn_49 hw19 (by decide) rfl d_Rn_begin_28 ?_
        refine xr_iload_n C 2 d_Rn_begin_31 rfl hq2 ?_
        refine xr_callV (k9 := 12) C (m_Ru_mayBeUsed hw12 hw15 hw17 hw18 (x := (i : Int)) (by omega) (hco _) (hch _) han) xm_Rn_83 x2_Ru_mayBeUsed hw12 (by decide) rfl (by decide) (by decide) (Nat.le_of_ble_eq_true rfl) rfl d_Rn_begin_32 (fun En n9 ad9 w9 hx9 => hx9.elim) (fun v n9 ad9 w9 hp => ?_)
        obtain ⟨rfl, rfl, rfl, rfl⟩ := hp
        show XW _ _ _ _ _ _ 35 _ (_ :: _)
        rw [Int.toNat_natCast]
        refine xb_if_eq (tgt := 58) C d_Rn_begin_35 (by decide)  (fun c35 => ?_) (fun c35 => ?_)
        · skip
          have hv : 0 = xb (usS co ch an le9 only i) := by unfold usS; rw [c35]; rfl
          refine xr_iconst C d_Rn_begin_58 ?_
          refine xj_zast (k := 20) C (i) (by omega) hw20 (by decide) (by omega) (by decide) (by omega) d_Rn_begin_59 ?_
          refine xr_iinc C d_Rn_begin_60 (by decide) hq2 ?_
          refine xr_goto (tgt := 11) C d_Rn_begin_63 (by decide) ?_
          exact ih (i + 1) _ _ _ (by omega) (by omega) rfl hw21 (fun r hr => by
            by_cases e : r = i
            · rw [e, va_eq]; exact hv
            · rw [va_ne e]; exact hal r (by omega)) (fun k a b => (va_ne a).trans (hfr k a b)) hq0 hq1 rfl
        · skip
          refine xr_aload_n C 0 d_Rn_begin_38 rfl hq0 ?_
          refine xr_get (k := 19) C xg_Rn_49 hw19 (by decide) rfl d_Rn_begin_39 ?_
          refine xr_get (k := 12) C xg_Rn_86 hw12 (by decide) rfl d_Rn_begin_42 ?_
          refine xr_iload_n C 2 d_Rn_begin_45 rfl hq2 ?_
          refine xj_zald (k := 16) C (i) (by omega) hw16 (by decide) (by omega) (by decide) d_Rn_begin_46 ?_
          have hl9 := hle i
          refine xz_if_ne (tgt := 54) C d_Rn_begin_47 (by decide) (by omega) (fun c47 => ?_) (fun c47 => ?_)
          · skip
            have hv : 1 = xb (usS co ch an le9 only i) := by unfold usS; rw [c35, decide_eq_true (by omega)]; rfl
            refine xr_iconst C d_Rn_begin_54 ?_
            refine xr_goto (tgt := 59) C d_Rn_begin_55 (by decide) ?_
            refine xj_zast (k := 20) C (i) (by omega) hw20 (by decide) (by omega) (by decide) (by omega) d_Rn_begin_59 ?_
            refine xr_iinc C d_Rn_begin_60 (by decide) hq2 ?_
            refine xr_goto (tgt := 11) C d_Rn_begin_63 (by decide) ?_
            exact ih (i + 1) _ _ _ (by omega) (by omega) rfl hw21 (fun r hr => by
              by_cases e : r = i
              · rw [e, va_eq]; exact hv
              · rw [va_ne e]; exact hal r (by omega)) (fun k a b => (va_ne a).trans (hfr k a b)) hq0 hq1 rfl
          · skip
            have hl0 : decide (le9 i = 1) = false := decide_eq_false (by omega)
            refine xr_iload_n C 1 d_Rn_begin_50 rfl hq1 ?_
            refine xb_if_ne (tgt := 58) C d_Rn_begin_51 (by decide)  (fun c51 => ?_) (fun c51 => ?_)
            · skip
              have hv : 0 = xb (usS co ch an le9 only i) := by unfold usS; rw [c35, hl0, c51]; rfl
              refine xr_iconst C d_Rn_begin_58 ?_
              refine xj_zast (k := 20) C (i) (by omega) hw20 (by decide) (by omega) (by decide) (by omega) d_Rn_begin_59 ?_
              refine xr_iinc C d_Rn_begin_60 (by decide) hq2 ?_
              refine xr_goto (tgt := 11) C d_Rn_begin_63 (by decide) ?_
              exact ih (i + 1) _ _ _ (by omega) (by omega) rfl hw21 (fun r hr => by
                by_cases e : r = i
                · rw [e, va_eq]; exact hv
                · rw [va_ne e]; exact hal r (by omega)) (fun k a b => (va_ne a).trans (hfr k a b)) hq0 hq1 rfl
            · skip
              have hv : 1 = xb (usS co ch an le9 only i) := by unfold usS; rw [c35, hl0, c51]; rfl
              refine xr_iconst C d_Rn_begin_54 ?_
              refine xr_goto (tgt := 59) C d_Rn_begin_55 (by decide) ?_
              refine xj_zast (k := 20) C (i) (by omega) hw20 (by decide) (by omega) (by decide) (by omega) d_Rn_begin_59 ?_
              refine xr_iinc C d_Rn_begin_60 (by decide) hq2 ?_
              refine xr_goto (tgt := 11) C d_Rn_begin_63 (by decide) ?_
              exact ih (i + 1) _ _ _ (by omega) (by omega) rfl hw21 (fun r hr => by
                by_cases e : r = i
                · rw [e, va_eq]; exact hv
                · rw [va_ne e]; exact hal r (by omega)) (fun k a b => (va_ne a).trans (hfr k a b)) hq0 hq1 rfl
  refine xr_aload_n C 0 d_Rn_begin_0 rfl rfl ?_
  refine xr_get (k := 19) C xg_Rn_15 hw19 (by decide) rfl d_Rn_begin_1 ?_
  refine xr_bipush C d_Rn_begin_4 (by decide) ?_
  refine xr_callS C (m_Ar_fill (n := 56) (k := 21) (N := 300) (v := -3) (by decide) (by decide) hw21) xm_Rn_74 x2_Ar_fill (by decide) (by decide) (Nat.le_of_ble_eq_true rfl) rfl d_Rn_begin_6 (fun En n9 ad9 w9 hx9 => hx9.elim) (fun v n9 ad9 w9 hp => ?_)
  obtain ⟨rfl, rfl, rfl, f, hw21', hf, -, hfr⟩ := hp
  refine xr_iconst C d_Rn_begin_9 ?_
  refine xr_istore_n C 2 d_Rn_begin_10 rfl (by decide) ?_
  exact lp f hf (n + 1) 0 _ al _ (by omega) (by omega) ((hfr 20 (by decide)).trans hw20) hw21' (fun r hr => by omega) (fun k _ b => hfr k b) rfl rfl rfl
/-- what is noted is right, and what was asked on the way is noted too -/
def FN (S : xS) (lo fo : Nat → Int) : Prop := (∀ j, j < 300 → fo j = -3 ∨ (j < sN S ∧ fo j = fnS S lo j)) ∧ ∀ j, j < sN S → fo j = -2 → fo (sFs S j).toNat ≠ -3 ∧ (fnS S lo (sFs S j).toNat = -1 → fo (sSn S j).toNat ≠ -3)
theorem FN_up {S : xS} {lo fo : Nat → Int} {x : Nat} {v : Int} (h : FN S lo fo) (hx : x < sN S) (hv : v = fnS S lo x) (h3 : v ≠ -3) (hc : v = -2 → fo (sFs S x).toNat ≠ -3 ∧ (fnS S lo (sFs S x).toNat = -1 → fo (sSn S x).toNat ≠ -3)) : FN S lo (va_up fo x v) := by
  have keep : ∀ j, fo j ≠ -3 → va_up fo x v j ≠ -3 := by
    intro j hj
    unfold va_up
    split
    · exact h3
    · exact hj
  refine ⟨fun j hj => ?_, fun j hj h2 => ?_⟩
  · by_cases e : j = x
    · subst e
      rw [va_eq]
      exact Or.inr ⟨hx, hv⟩
    · rw [va_ne e]
      exact h.1 j hj
  · by_cases e : j = x
    · subst e
      rw [va_eq] at h2
      obtain ⟨a, b⟩ := hc h2
      exact ⟨keep _ a, fun q => keep _ (b q)⟩
    · rw [va_ne e] at h2
      obtain ⟨a, b⟩ := h.2 j hj h2
      exact ⟨keep _ a, fun q => keep _ (b q)⟩
theorem fn_in {S : xS} {n : Nat} {rl : Nat → Int} {us : Nat → Bool} (hT : Tb S) {t : Nat} (ht : t < sN S) : -2 ≤ fnS S (lowR S n rl us) t ∧ (fnS S (lowR S n rl us) t < n ∨ fnS S (lowR S n rl us) t = -1) := by
  rw [fn_eq (hT.2.1 t ht).1]
  have := lowR_in S n rl us t
  split <;> omega
theorem lowR_ge (S : xS) (n : Nat) (rl : Nat → Int) (us : Nat → Bool) : ∀ t, -1 ≤ lowR S n rl us t := by
  intro t
  have := lowR_in S n rl us t
  omega
set_option maxHeartbeats 4000000 in
set_option maxRecDepth 100000 in
theorem m_Rn_canStep {L : Launch} {D : va_G} {cA : Nat → ClassId} {base : Nat} {ad : Nat → Nat} {S : xS} {sp pz lz md : Int} {mo : Bool} {n : Nat} {rl al : Nat → Int} {us : Nat → Bool} (hT : Tb S) (hn : n ≤ 16) (hal : ∀ r, r < n → al r = xb (us r)) (hrl : ∀ r, r < n → 0 ≤ rl r ∧ rl r < sN S ∧ sSg S (rl r).toNat < 100) : ∀ (d : Nat) {w : Nat → va_E} {β fo : Nat → Int} {x : Int}, CT ad cA w S → w 19 = rnO ad sp pz lz md mo → w 12 = ruO ad (n : Int) → w 13 = xIA (cA 0) 16 rl → w 20 = xIA (cA 1) 16 al → w 21 = xIA (cA 0) 300 fo → FN S (lowR S n rl us) fo → w 22 = xIA (cA 0) 6 β → (∀ h, -1 ≤ β h ∧ β h < 300) → (-1 ≤ x ∧ x < sN S) → (0 ≤ x → sDp S x.toNat + 1 ≤ d) →
    XM L D cA base y_Rn_canStep c_Rn_canStep 3 (some .boolean) (xrm (34 + d) 0 0) [.ref (ad 19), .int (zI x)] 56 ad w (xRet 56 ad (fun z w' => z = xb (decide (fnI S (lowR S n rl us) x ≠ -1)) ∧ (∃ fo', w' 21 = xIA (cA 0) 300 fo' ∧ FN S (lowR S n rl us) fo' ∧ (0 ≤ x → fo' x.toNat ≠ -3) ∧ ∀ j, fo j ≠ -3 → fo' j = fo j) ∧ (∃ γ, w' 22 = xIA (cA 0) 6 γ ∧ (∀ h, -1 ≤ γ h ∧ γ h < 300)) ∧ ∀ k, k ≠ 21 → k ≠ 22 → w' k = w k)) xF := by
  intro d
  induction d with
  | zero =>
    intro w β fo x hCT hw19 hw12 hw13 hw20 hw21 hF hw22 hβ hx hd
    have hx0 : x < 0 := by
      rcases Int.lt_or_le x 0 with q | q
      · exact q
      · have := hd q
        have := (hT.2.1 x.toNat (by omega)).2.2.2.2.2
        omega
    have hN := hT.1
    refine xm_of (by decide +kernel) (by simp [Value.category]) (Nat.le_of_ble_eq_true rfl) (fun G C E _ => ?_)
    refine xr_iload_n C 1 d_Rn_canStep_0 rfl rfl ?_
    refine xz_if_ge (tgt := 6) C d_Rn_canStep_1 (by decide) (by omega) (fun c1 => by exfalso; omega) (fun c1 => ?_)
    refine xr_iconst C d_Rn_canStep_4 ?_
    exact xr_zret C E (by omega) ⟨rfl, rfl, _, rfl, by unfold fnI; rw [if_pos (by omega)]; rfl, ⟨fo, hw21, hF, fun q => absurd q (by omega), fun _ _ => rfl⟩, ⟨β, hw22, hβ⟩, fun k _ _ => rfl⟩ (Nat.le_of_ble_eq_true rfl) (Nat.le_of_ble_eq_true rfl) d_Rn_canStep_5
  | succ d ih =>
    intro w β fo x hCT hw19 hw12 hw13 hw20 hw21 hF hw22 hβ hx hd
    have hN := hT.1
    obtain ⟨mk, fs, sn, wt, pl, dp, ho, hc, nw, od, hw1, hw2, hw3, hw4, hw5, hw6, hw7, hw8, hw9, hw10, hw11, hC⟩ := id hCT
    refine xm_of (by decide +kernel) (by simp [Value.category]) (Nat.le_of_ble_eq_true rfl) (fun G C E _ => ?_)
    refine xr_iload_n C 1 d_Rn_canStep_0 rfl rfl ?_
    refine xz_if_ge (tgt := 6) C d_Rn_canStep_1 (by decide) (by omega) (fun c1 => ?_) (fun c1 => ?_)
    · skip
      obtain ⟨x, rfl⟩ : ∃ q : Nat, x = (q : Int) := ⟨x.toNat, by omega⟩
      rw [Int.toNat_natCast] at *
      have hxN : x < sN S := by omega
      obtain ⟨-, m2, m3, -⟩ := hC.1 x hxN
      have sx := (hT.2.1 x hxN).1
      have ha := shp_a sx
      have hd9 := hd (by omega)
      have hdc := dp_child hT hxN
      have hfi := fn_in (n := n) (rl := rl) (us := us) hT hxN
      have hfe := fn_eq (low := lowR S n rl us) sx
      have hF1 := hF.1 x (by omega)
      have J : ∀ (w2 : Nat → va_E) (fo2 : Nat → Int), w2 19 = rnO ad sp pz lz md mo → w2 21 = xIA (cA 0) 300 fo2 → fo2 x = fnS S (lowR S n rl us) x → FN S (lowR S n rl us) fo2 → (∀ j, fo j ≠ -3 → fo2 j = fo j) → (∃ γ, w2 22 = xIA (cA 0) 6 γ ∧ (∀ h, -1 ≤ γ h ∧ γ h < 300)) → (∀ k, k ≠ 21 → k ≠ 22 → w2 k = w k) → ∀ lv : Nat → Option Value, lv 0 = some (.ref (ad 19)) → lv 1 = some (.int (zI (x : Int))) → XW G 56 ad w2 0 0 75 lv [] := by
        intro w2 fo2 hw19 hw21 hfx hF2 hkp hG hfr lv hq0 hq1
        refine xr_aload_n C 0 d_Rn_canStep_75 rfl hq0 ?_
        refine xr_get (k := 19) C xg_Rn_15 hw19 (by decide) rfl d_Rn_canStep_76 ?_
        refine xr_iload_n C 1 d_Rn_canStep_79 rfl hq1 ?_
        refine xj_iald (k := 21) C (x) (by omega) hw21 (by decide) (by omega) (by decide) d_Rn_canStep_80 ?_
        refine xr_iconst C d_Rn_canStep_81 ?_
        refine xz_icmp_eq (tgt := 89) C d_Rn_canStep_82 (by decide) (by omega) (by omega) (fun c82 => ?_) (fun c82 => ?_)
        · skip
          refine xr_iconst C d_Rn_canStep_89 ?_
          exact xr_zret C E (by omega) ⟨rfl, rfl, _, rfl, by rw [fnI_n]; exact xb_z (by omega), ⟨fo2, hw21, hF2, fun _ => by first | omega | (rw [Int.toNat_natCast]; omega), hkp⟩, hG, hfr⟩ (Nat.le_of_ble_eq_true rfl) (Nat.le_of_ble_eq_true rfl) d_Rn_canStep_90
        · skip
          refine xr_iconst C d_Rn_canStep_85 ?_
          refine xr_goto (tgt := 90) C d_Rn_canStep_86 (by decide) ?_
          exact xr_zret C E (by omega) ⟨rfl, rfl, _, rfl, by rw [fnI_n]; exact xb_z (by omega), ⟨fo2, hw21, hF2, fun _ => by first | omega | (rw [Int.toNat_natCast]; omega), hkp⟩, hG, hfr⟩ (Nat.le_of_ble_eq_true rfl) (Nat.le_of_ble_eq_true rfl) d_Rn_canStep_90
      refine xr_aload_n C 0 d_Rn_canStep_6 rfl rfl ?_
      refine xr_get (k := 19) C xg_Rn_15 hw19 (by decide) rfl d_Rn_canStep_7 ?_
      refine xr_iload_n C 1 d_Rn_canStep_10 rfl rfl ?_
      refine xj_iald (k := 21) C (x) (by omega) hw21 (by decide) (by omega) (by decide) d_Rn_canStep_11 ?_
      refine xr_bipush C d_Rn_canStep_12 (by decide) ?_
      refine xz_icmp_ne (tgt := 75) C d_Rn_canStep_14 (by decide) (by omega) (by omega) (fun c14 => ?_) (fun c14 => ?_)
      · skip
        exact J _ fo hw19 hw21 (by omega) hF (fun _ _ => rfl) ⟨β, hw22, hβ⟩ (fun k _ _ => rfl) _ rfl rfl
      · skip
        refine xr_aload_n C 0 d_Rn_canStep_17 rfl rfl ?_
        refine xr_aload_n C 0 d_Rn_canStep_18 rfl rfl ?_
        refine xr_get (k := 19) C xg_Rn_45 hw19 (by decide) rfl d_Rn_canStep_19 ?_
        refine xr_get (k := 1) C xg_Rn_89 hw1 (by decide) rfl d_Rn_canStep_22 ?_
        refine xr_iload_n C 1 d_Rn_canStep_25 rfl rfl ?_
        refine xj_iald (k := 3) C (x) (by omega) hw3 (by decide) (by omega) (by decide) d_Rn_canStep_26 ?_
        refine xr_callV (k9 := 19) C (ih (x := fs x) hCT hw19 hw12 hw13 hw20 hw21 hF hw22 hβ (by omega) (fun q => by rw [m2] at q ⊢; have := hdc.1 (by unfold shp at sx; omega); omega)) xm_Rn_62 x2_Rn_canStep hw19 (by decide) rfl ⟨by show (34 + d) + 1 ≤ 34 + (d + 1); omega, by show 8 + (3 + 11) + 40 * ((34 + d)) ≤ 40 * (34 + (d + 1)); omega⟩ ⟨Nat.le_of_ble_eq_true rfl, Nat.le_of_ble_eq_true rfl⟩ (Nat.le_of_ble_eq_true rfl) rfl d_Rn_canStep_27 (fun En n9 ad9 w9 hx9 => hx9.elim) (fun v n9 ad9 w9 hp => ?_)
        obtain ⟨rfl, rfl, z, rfl, rfl, ⟨fo1, hw21', hF', hk1, hk2⟩, ⟨γ, hw22', hγ⟩, hfr⟩ := hp
        have hw1 := (hfr 1 (by decide) (by decide)).trans hw1
        have hw3 := (hfr 3 (by decide) (by decide)).trans hw3
        have hw4 := (hfr 4 (by decide) (by decide)).trans hw4
        have hw12 := (hfr 12 (by decide) (by decide)).trans hw12
        have hw13 := (hfr 13 (by decide) (by decide)).trans hw13
        have hw19 := (hfr 19 (by decide) (by decide)).trans hw19
        have hw20 := (hfr 20 (by decide) (by decide)).trans hw20
        rw [m2] at hk1
        rw [m2]
        show XW _ _ _ _ _ _ 30 _ (_ :: _)
        refine xb_if_ne (tgt := 49) C d_Rn_canStep_30 (by decide)  (fun c30 => ?_) (fun c30 => ?_)
        · skip
          have hin : fnI S (lowR S n rl us) (sFs S x) ≠ -1 := of_decide_eq_true c30
          have hfx : fnS S (lowR S n rl us) x = -2 := by rw [hfe, if_pos (Or.inl hin)]
          have hf0 : 0 ≤ sFs S x := by
            rcases Int.lt_or_le (sFs S x) 0 with q | q
            · exact absurd (by unfold fnI; rw [if_pos q]) hin
            · exact q
          rw [fnI_p hf0] at hin
          have hFk := hF'
          have hKp := hk2
          have hCl : fnS S (lowR S n rl us) x = -2 → fo1 (sFs S x).toNat ≠ -3 ∧ (fnS S (lowR S n rl us) (sFs S x).toNat = -1 → fo1 (sSn S x).toNat ≠ -3) := fun _ => ⟨hk1 hf0, fun r => absurd r hin⟩
          have hG9 : ∃ γ, w9 22 = xIA (cA 0) 6 γ ∧ (∀ h, -1 ≤ γ h ∧ γ h < 300) := ⟨γ, hw22', hγ⟩
          have hFr := hfr
          have hw21k := hw21'
          refine xr_iconst C d_Rn_canStep_49 ?_
          refine xr_goto (tgt := 54) C d_Rn_canStep_50 (by decide) ?_
          refine xr_istore_n C 2 d_Rn_canStep_54 rfl (by decide) ?_
          refine xr_aload_n C 0 d_Rn_canStep_55 rfl rfl ?_
          refine xr_get (k := 19) C xg_Rn_15 hw19 (by decide) rfl d_Rn_canStep_56 ?_
          refine xr_iload_n C 1 d_Rn_canStep_59 rfl rfl ?_
          refine xr_iload_n C 2 d_Rn_canStep_60 rfl rfl ?_
          refine xz_if_eq (tgt := 69) C d_Rn_canStep_61 (by decide) (by omega) (fun c61 => by exfalso; omega) (fun c61 => ?_)
          refine xr_bipush C d_Rn_canStep_64 (by decide) ?_
          refine xr_goto (tgt := 74) C d_Rn_canStep_66 (by decide) ?_
          refine xr_eqz (y := fnS S (lowR S n rl us) x) hfx.symm ?_
          refine xj_iast (k := 21) C (x) (by omega) hw21k (by decide) (by omega) (by decide) d_Rn_canStep_74 ?_
          exact J _ (va_up _ x (fnS S (lowR S n rl us) x)) (by exact hw19) rfl va_eq (FN_up hFk hxN rfl (by omega) hCl) (fun j hj => (va_ne (by intro e; rw [e] at hj; exact hj (by omega))).trans (hKp j hj)) (by exact hG9) (by exact fun k a b => (va_ne a).trans (hFr k a b)) _ rfl rfl
        · skip
          have hin : fnI S (lowR S n rl us) (sFs S x) = -1 := by simpa using of_decide_eq_false c30
          refine xr_aload_n C 0 d_Rn_canStep_33 rfl rfl ?_
          refine xr_aload_n C 0 d_Rn_canStep_34 rfl rfl ?_
          refine xr_get (k := 19) C xg_Rn_45 hw19 (by decide) rfl d_Rn_canStep_35 ?_
          refine xr_get (k := 1) C xg_Rn_94 hw1 (by decide) rfl d_Rn_canStep_38 ?_
          refine xr_iload_n C 1 d_Rn_canStep_41 rfl rfl ?_
          refine xj_iald (k := 4) C (x) (by omega) hw4 (by decide) (by omega) (by decide) d_Rn_canStep_42 ?_
          refine xr_callV (k9 := 19) C (ih (x := sn x) (ct_fr hCT (fun k a b => hfr k (by omega) (by omega))) hw19 hw12 hw13 hw20 hw21' hF' hw22' hγ (by omega) (fun q => by rw [m3] at q ⊢; have := hdc.2 (by unfold shp at sx; omega) (by unfold shp at sx; omega); omega)) xm_Rn_62 x2_Rn_canStep hw19 (by decide) rfl ⟨by show (34 + d) + 1 ≤ 34 + (d + 1); omega, by show 8 + (3 + 11) + 40 * ((34 + d)) ≤ 40 * (34 + (d + 1)); omega⟩ ⟨Nat.le_of_ble_eq_true rfl, Nat.le_of_ble_eq_true rfl⟩ (Nat.le_of_ble_eq_true rfl) rfl d_Rn_canStep_43 (fun En n9 ad9 w9 hx9 => hx9.elim) (fun v n9 ad9 w9 hp => ?_)
          obtain ⟨rfl, rfl, z, rfl, rfl, ⟨fo2, hw21'', hF'', hk3, hk4⟩, ⟨δ, hw22'', hδ⟩, hfr'⟩ := hp
          have hw1 := (hfr' 1 (by decide) (by decide)).trans hw1
          have hw3 := (hfr' 3 (by decide) (by decide)).trans hw3
          have hw4 := (hfr' 4 (by decide) (by decide)).trans hw4
          have hw12 := (hfr' 12 (by decide) (by decide)).trans hw12
          have hw13 := (hfr' 13 (by decide) (by decide)).trans hw13
          have hw19 := (hfr' 19 (by decide) (by decide)).trans hw19
          have hw20 := (hfr' 20 (by decide) (by decide)).trans hw20
          rw [m3] at hk3
          rw [m3]
          show XW _ _ _ _ _ _ 46 _ (_ :: _)
          refine xb_if_eq (tgt := 53) C d_Rn_canStep_46 (by decide)  (fun c46 => ?_) (fun c46 => ?_)
          · skip
            have hin2 : fnI S (lowR S n rl us) (sSn S x) = -1 := by simpa using of_decide_eq_false c46
            have hfx : fnS S (lowR S n rl us) x = lowR S n rl us x := by rw [hfe, if_neg (by simp [hin, hin2])]
            refine xr_iconst C d_Rn_canStep_53 ?_
            refine xr_istore_n C 2 d_Rn_canStep_54 rfl (by decide) ?_
            refine xr_aload_n C 0 d_Rn_canStep_55 rfl rfl ?_
            refine xr_get (k := 19) C xg_Rn_15 hw19 (by decide) rfl d_Rn_canStep_56 ?_
            refine xr_iload_n C 1 d_Rn_canStep_59 rfl rfl ?_
            refine xr_iload_n C 2 d_Rn_canStep_60 rfl rfl ?_
            refine xz_if_eq (tgt := 69) C d_Rn_canStep_61 (by decide) (by omega) (fun c61 => ?_) (fun c61 => by exfalso; omega)
            refine xr_aload_n C 0 d_Rn_canStep_69 rfl rfl ?_
            refine xr_iload_n C 1 d_Rn_canStep_70 rfl rfl ?_
            refine xr_callV (k9 := 19) C (m_Rn_lowestRule (ct_fr hCT (fun k a b => (hfr' k (by omega) (by omega)).trans (hfr k (by omega) (by omega)))) hT hw19 hw22'' hδ hn hw12 hw13 hw20 hal hrl (t := x) hxN) xm_Rn_97 x2_Rn_lowestRule hw19 (by decide) rfl ⟨by show 33 + 1 ≤ 34 + (d + 1); omega, by show 8 + (3 + 11) + 40 * (33) ≤ 40 * (34 + (d + 1)); omega⟩ ⟨Nat.le_of_ble_eq_true rfl, Nat.le_of_ble_eq_true rfl⟩ (Nat.le_of_ble_eq_true rfl) rfl d_Rn_canStep_71 (fun En n9 ad9 w9 hx9 => hx9.elim) (fun v n9 ad9 w9 hp => ?_)
            obtain ⟨rfl, rfl, z, rfl, rfl, ⟨ε, hw22''', hε⟩, hfr''⟩ := hp
            have hw19 := (hfr'' 19 (by decide)).trans hw19
            have hw21''' := (hfr'' 21 (by decide)).trans hw21''
            have hFk := hF''
            have hKp : ∀ j, fo j ≠ -3 → fo2 j = fo j := fun j hj => (hk4 j (by rw [hk2 j hj]; exact hj)).trans (hk2 j hj)
            have hCl : fnS S (lowR S n rl us) x = -2 → fo2 (sFs S x).toNat ≠ -3 ∧ (fnS S (lowR S n rl us) (sFs S x).toNat = -1 → fo2 (sSn S x).toNat ≠ -3) := fun q => absurd (hfx.symm.trans q) (by have := lowR_ge S n rl us x; omega)
            have hG9 : ∃ γ, w9 22 = xIA (cA 0) 6 γ ∧ (∀ h, -1 ≤ γ h ∧ γ h < 300) := ⟨ε, hw22''', hε⟩
            have hFr : ∀ k, k ≠ 21 → k ≠ 22 → w9 k = w k := fun k a b => (hfr'' k b).trans ((hfr' k a b).trans (hfr k a b))
            have hw21k := hw21'''
            show XW _ _ _ _ _ _ 74 _ (_ :: _)
            refine xr_eqz (y := fnS S (lowR S n rl us) x) hfx.symm ?_
            refine xj_iast (k := 21) C (x) (by omega) hw21k (by decide) (by omega) (by decide) d_Rn_canStep_74 ?_
            exact J _ (va_up _ x (fnS S (lowR S n rl us) x)) (by exact hw19) rfl va_eq (FN_up hFk hxN rfl (by omega) hCl) (fun j hj => (va_ne (by intro e; rw [e] at hj; exact hj (by omega))).trans (hKp j hj)) (by exact hG9) (by exact fun k a b => (va_ne a).trans (hFr k a b)) _ rfl rfl
          · skip
            have hin2 : fnI S (lowR S n rl us) (sSn S x) ≠ -1 := of_decide_eq_true c46
            have hfx : fnS S (lowR S n rl us) x = -2 := by rw [hfe, if_pos (Or.inr hin2)]
            have hs0 : 0 ≤ sSn S x := by
              rcases Int.lt_or_le (sSn S x) 0 with q | q
              · exact absurd (by unfold fnI; rw [if_pos q]) hin2
              · exact q
            have hf0 : 0 ≤ sFs S x := by unfold shp at sx; omega
            have hFk := hF''
            have hKp : ∀ j, fo j ≠ -3 → fo2 j = fo j := fun j hj => (hk4 j (by rw [hk2 j hj]; exact hj)).trans (hk2 j hj)
            have hCl : fnS S (lowR S n rl us) x = -2 → fo2 (sFs S x).toNat ≠ -3 ∧ (fnS S (lowR S n rl us) (sFs S x).toNat = -1 → fo2 (sSn S x).toNat ≠ -3) := fun _ => ⟨by rw [hk4 _ (hk1 hf0)]; exact hk1 hf0, fun _ => hk3 hs0⟩
            have hG9 : ∃ γ, w9 22 = xIA (cA 0) 6 γ ∧ (∀ h, -1 ≤ γ h ∧ γ h < 300) := ⟨δ, hw22'', hδ⟩
            have hFr : ∀ k, k ≠ 21 → k ≠ 22 → w9 k = w k := fun k a b => (hfr' k a b).trans (hfr k a b)
            have hw21k := hw21''
            refine xr_iconst C d_Rn_canStep_49 ?_
            refine xr_goto (tgt := 54) C d_Rn_canStep_50 (by decide) ?_
            refine xr_istore_n C 2 d_Rn_canStep_54 rfl (by decide) ?_
            refine xr_aload_n C 0 d_Rn_canStep_55 rfl rfl ?_
            refine xr_get (k := 19) C xg_Rn_15 hw19 (by decide) rfl d_Rn_canStep_56 ?_
            refine xr_iload_n C 1 d_Rn_canStep_59 rfl rfl ?_
            refine xr_iload_n C 2 d_Rn_canStep_60 rfl rfl ?_
            refine xz_if_eq (tgt := 69) C d_Rn_canStep_61 (by decide) (by omega) (fun c61 => by exfalso; omega) (fun c61 => ?_)
            refine xr_bipush C d_Rn_canStep_64 (by decide) ?_
            refine xr_goto (tgt := 74) C d_Rn_canStep_66 (by decide) ?_
            refine xr_eqz (y := fnS S (lowR S n rl us) x) hfx.symm ?_
            refine xj_iast (k := 21) C (x) (by omega) hw21k (by decide) (by omega) (by decide) d_Rn_canStep_74 ?_
            exact J _ (va_up _ x (fnS S (lowR S n rl us) x)) (by exact hw19) rfl va_eq (FN_up hFk hxN rfl (by omega) hCl) (fun j hj => (va_ne (by intro e; rw [e] at hj; exact hj (by omega))).trans (hKp j hj)) (by exact hG9) (by exact fun k a b => (va_ne a).trans (hFr k a b)) _ rfl rfl
    · skip
      refine xr_iconst C d_Rn_canStep_4 ?_
      exact xr_zret C E (by omega) ⟨rfl, rfl, _, rfl, by unfold fnI; rw [if_pos (by omega)]; rfl, ⟨fo, hw21, hF, fun q => absurd q (by omega), fun _ _ => rfl⟩, ⟨β, hw22, hβ⟩, fun k _ _ => rfl⟩ (Nat.le_of_ble_eq_true rfl) (Nat.le_of_ble_eq_true rfl) d_Rn_canStep_5
/-- the way as the system notes it, the innermost last -/
def AR (ar is : Nat → Int) : List (Nat × Bool × Nat) → Prop
  | [] => True
  | (y, b, _) :: r => ar r.length = (y : Int) ∧ is r.length = xb b ∧ AR ar is r
theorem AR_up {ar is : Nat → Int} {k : Nat} {v u : Int} : ∀ {p : List (Nat × Bool × Nat)}, AR ar is p → p.length ≤ k → AR (va_up ar k v) (va_up is k u) p := by
  intro p
  induction p with
  | nil => intro _ _; trivial
  | cons a p ih =>
    intro h hk
    obtain ⟨y, b, q⟩ := a
    have hk : p.length + 1 ≤ k := hk
    exact ⟨by rw [va_ne (by omega)]; exact h.1, by rw [va_ne (by omega)]; exact h.2.1, ih h.2.2 (by omega)⟩
set_option maxHeartbeats 4000000 in
set_option maxRecDepth 100000 in
theorem m_Rn_seek {L : Launch} {D : va_G} {cA : Nat → ClassId} {base : Nat} {ad : Nat → Nat} {w : Nat → va_E} {S : xS} (hCT : CT ad cA w S) (hT : Tb S) {sp pz lz md : Int} {mo : Bool} (hw19 : w 19 = rnO ad sp pz lz md mo) {n : Nat} {rl al : Nat → Int} {us : Nat → Bool} (hn : n ≤ 16) (hw12 : w 12 = ruO ad (n : Int)) (hw13 : w 13 = xIA (cA 0) 16 rl) (hw20 : w 20 = xIA (cA 1) 16 al) (hal : ∀ r, r < n → al r = xb (us r)) (hrl : ∀ r, r < n → 0 ≤ rl r ∧ rl r < sN S ∧ sSg S (rl r).toNat < 100) {fo β ar is : Nat → Int} (hw21 : w 21 = xIA (cA 0) 300 fo) (hF : FN S (lowR S n rl us) fo) (hw22 : w 22 = xIA (cA 0) 6 β) (hβ : ∀ h, -1 ≤ β h ∧ β h < 300) (hw23 : w 23 = xIA (cA 0) 30 ar) (hw24 : w 24 = xIA (cA 1) 30 is) {t : Nat} (ht : t < sN S) (h3 : fo t ≠ -3) : XM L D cA base y_Rn_seek c_Rn_seek 4 none (xrm 66 0 0) [.ref (ad 19), .int (zI (t : Int))] 56 ad w (xVoid 56 ad (fun w' => ∃ fo' γ ar' is' : Nat → Int, w' 19 = rnO ad ((sk S (fnS S (lowR S n rl us)) [] t 0).2.1 : Int) ((sk S (fnS S (lowR S n rl us)) [] t 0).2.2 : Int) ((sk S (fnS S (lowR S n rl us)) [] t 0).1.length : Int) md mo ∧ w' 21 = xIA (cA 0) 300 fo' ∧ FN S (lowR S n rl us) fo' ∧ fo' (sk S (fnS S (lowR S n rl us)) [] t 0).2.1 ≠ -3 ∧ w' 22 = xIA (cA 0) 6 γ ∧ (∀ h, -1 ≤ γ h ∧ γ h < 300) ∧ w' 23 = xIA (cA 0) 30 ar' ∧ w' 24 = xIA (cA 1) 30 is' ∧ AR ar' is' (sk S (fnS S (lowR S n rl us)) [] t 0).1 ∧ ∀ k, k ≠ 19 → k ≠ 21 → k ≠ 22 → k ≠ 23 → k ≠ 24 → w' k = w k)) xF := by
  refine xm_of (by decide +kernel) (by simp [Value.category]) (Nat.le_of_ble_eq_true rfl) (fun G C E _ => ?_)
  obtain ⟨mk, fs, sn, wt, pl, dp, ho, hc, nw, od, hw1, hw2, hw3, hw4, hw5, hw6, hw7, hw8, hw9, hw10, hw11, hC⟩ := id hCT
  have hN := hT.1
  have lp : ∀ (m x : Nat) (p : List (Nat × Bool × Nat)) (pos : Nat) (w1 : Nat → va_E) (fo γ0 ar is : Nat → Int) (lv : Nat → Option Value), x < m → PT S t p x pos → sk S (fnS S (lowR S n rl us)) p x pos = sk S (fnS S (lowR S n rl us)) [] t 0 → w1 19 = rnO ad (x : Int) (pos : Int) (p.length : Int) md mo → w1 21 = xIA (cA 0) 300 fo → FN S (lowR S n rl us) fo → fo x ≠ -3 → w1 22 = xIA (cA 0) 6 γ0 → (∀ h, -1 ≤ γ0 h ∧ γ0 h < 300) → w1 23 = xIA (cA 0) 30 ar → w1 24 = xIA (cA 1) 30 is → AR ar is p → (∀ k, k ≠ 19 → k ≠ 21 → k ≠ 22 → k ≠ 23 → k ≠ 24 → w1 k = w k) → lv 0 = some (.ref (ad 19)) → XW G 56 ad w1 0 0 15 lv [] := by
    intro m
    induction m with
    | zero => intro x p pos w1 fo γ0 ar is lv h1; exact absurd h1 (by omega)
    | succ m ih =>
      intro x p pos w1 fo γ0 ar is lv h1 hPT hsk hw19 hw21 hF h3 hw22 hγ0 hw23 hw24 hAR hfr hq0
      have hw1 := (hfr 1 (by decide) (by decide) (by decide) (by decide) (by decide)).trans hw1
      have hw3 := (hfr 3 (by decide) (by decide) (by decide) (by decide) (by decide)).trans hw3
      have hw4 := (hfr 4 (by decide) (by decide) (by decide) (by decide) (by decide)).trans hw4
      have hw6 := (hfr 6 (by decide) (by decide) (by decide) (by decide) (by decide)).trans hw6
      have hw12 := (hfr 12 (by decide) (by decide) (by decide) (by decide) (by decide)).trans hw12
      have hw13 := (hfr 13 (by decide) (by decide) (by decide) (by decide) (by decide)).trans hw13
      have hw20 := (hfr 20 (by decide) (by decide) (by decide) (by decide) (by decide)).trans hw20
      have hxN := (PT_lt hT ht p x pos hPT).1
      have hlen := (PT_lt hT ht p x pos hPT).2
      have hdt := (hT.2.1 t ht).2.2.2.2.2
      have hdx := (hT.2.1 x hxN).2.2.2.2.2
      obtain ⟨-, m2, m3, -⟩ := hC.1 x hxN
      have sx := (hT.2.1 x hxN).1
      have ha := shp_a sx
      have hF1 := hF.1 x (by omega)
      have hfe := fn_eq (low := lowR S n rl us) sx
      have hlo := lowR_ge S n rl us x
      have hfi := fn_in (n := n) (rl := rl) (us := us) hT hxN
      have hleaf : sDp S x ≤ 0 → fnS S (lowR S n rl us) x ≠ -2 := by
        intro q
        have hd9 := (hT.2.1 x hxN).2.2.2.1
        have : 100 ≤ sSg S x := by
          have hdc := dp_child hT hxN
          have := (hT.2.1 (sFs S x).toNat)
          unfold shp at sx
          rcases Int.lt_or_le (sSg S x) 100 with q1 | q1
          · have h9 := hdc.1 q1
            have := (hT.2.1 (sFs S x).toNat (by omega)).2.2.2.2.2
            omega
          · exact q1
        unfold shp at sx
        rw [hfe, if_neg]
        · omega
        · unfold fnI
          rw [if_pos (by omega), if_pos (by omega)]
          simp
      refine xr_aload_n C 0 d_Rn_seek_15 rfl hq0 ?_
      refine xr_get (k := 19) C xg_Rn_29 hw19 (by decide) rfl d_Rn_seek_16 ?_
      refine xr_bipush C d_Rn_seek_19 (by decide) ?_
      refine xz_icmp_ge (tgt := 153) C d_Rn_seek_21 (by decide) (by omega) (by omega) (fun c21 => ?_) (fun c21 => ?_)
      · skip
        have hend : fnS S (lowR S n rl us) x ≠ -2 := hleaf (by omega)
        exact xr_vret C E ⟨rfl, rfl, rfl, fo, γ0, ar, is, by rw [← hsk, sk_end hend]; exact hw19, hw21, hF, by rw [← hsk, sk_end hend]; exact h3, hw22, hγ0, hw23, hw24, by rw [← hsk, sk_end hend]; exact hAR, hfr⟩ (by decide) (by decide) d_Rn_seek_153
      · skip
        refine xr_aload_n C 0 d_Rn_seek_24 rfl hq0 ?_
        refine xr_get (k := 19) C xg_Rn_15 hw19 (by decide) rfl d_Rn_seek_25 ?_
        refine xr_aload_n C 0 d_Rn_seek_28 rfl hq0 ?_
        refine xr_get (k := 19) C xg_Rn_22 hw19 (by decide) rfl d_Rn_seek_29 ?_
        refine xj_iald (k := 21) C (x) (by omega) hw21 (by decide) (by omega) (by decide) d_Rn_seek_32 ?_
        refine xr_bipush C d_Rn_seek_33 (by decide) ?_
        refine xz_icmp_ne (tgt := 153) C d_Rn_seek_35 (by decide) (by omega) (by omega) (fun c35 => ?_) (fun c35 => ?_)
        · skip
          have hend : fnS S (lowR S n rl us) x ≠ -2 := by omega
          exact xr_vret C E ⟨rfl, rfl, rfl, fo, γ0, ar, is, by rw [← hsk, sk_end hend]; exact hw19, hw21, hF, by rw [← hsk, sk_end hend]; exact h3, hw22, hγ0, hw23, hw24, by rw [← hsk, sk_end hend]; exact hAR, hfr⟩ (by decide) (by decide) d_Rn_seek_153
        · skip
          have h2x : fnS S (lowR S n rl us) x = -2 := by omega
          have hnode : sSg S x < 100 := by
            rcases Int.lt_or_le (sSg S x) 100 with q | q
            · exact q
            · exfalso
              unfold shp at sx
              rw [if_neg] at hfe
              · omega
              · unfold fnI
                rw [if_pos (by omega), if_pos (by omega)]
                simp
          have hf0 : 0 ≤ sFs S x := by unfold shp at sx; omega
          have hl30 : (p.length : Int) < 30 := by omega
          have hFc := hF.2 x hxN (by omega)
          refine xr_aload_n C 0 d_Rn_seek_38 rfl hq0 ?_
          refine xr_get (k := 19) C xg_Rn_45 hw19 (by decide) rfl d_Rn_seek_39 ?_
          refine xr_get (k := 1) C xg_Rn_89 hw1 (by decide) rfl d_Rn_seek_42 ?_
          refine xr_aload_n C 0 d_Rn_seek_45 rfl hq0 ?_
          refine xr_get (k := 19) C xg_Rn_22 hw19 (by decide) rfl d_Rn_seek_46 ?_
          refine xj_iald (k := 3) C (x) (by omega) hw3 (by decide) (by omega) (by decide) d_Rn_seek_49 ?_
          refine xr_istore_n C 2 d_Rn_seek_50 rfl (by decide) ?_
          refine xr_aload_n C 0 d_Rn_seek_51 rfl hq0 ?_
          refine xr_iload_n C 2 d_Rn_seek_52 rfl rfl ?_
          refine xr_callV (k9 := 19) C (m_Rn_canStep hT hn hal hrl 31 (x := fs x) (ct_fr hCT (fun k a b => hfr k (by omega) (by omega) (by omega) (by omega) (by omega))) hw19 hw12 hw13 hw20 hw21 hF hw22 hγ0 (by omega) (fun q => by rw [m2]; have := (hT.2.1 (sFs S x).toNat (by omega)).2.2.2.2.2; omega)) xm_Rn_62 x2_Rn_canStep hw19 (by decide) rfl (by decide) (by decide) (Nat.le_of_ble_eq_true rfl) rfl d_Rn_seek_53 (fun En n9 ad9 w9 hx9 => hx9.elim) (fun v n9 ad9 w9 hp => ?_)
          obtain ⟨rfl, rfl, z, rfl, rfl, ⟨fo1, hw21', hF', hk1, hk2⟩, ⟨γ, hw22', hγ⟩, hfr'⟩ := hp
          have hw1 := (hfr' 1 (by decide) (by decide)).trans hw1
          have hw3 := (hfr' 3 (by decide) (by decide)).trans hw3
          have hw4 := (hfr' 4 (by decide) (by decide)).trans hw4
          have hw6 := (hfr' 6 (by decide) (by decide)).trans hw6
          have hw12 := (hfr' 12 (by decide) (by decide)).trans hw12
          have hw13 := (hfr' 13 (by decide) (by decide)).trans hw13
          have hw19 := (hfr' 19 (by decide) (by decide)).trans hw19
          have hw20 := (hfr' 20 (by decide) (by decide)).trans hw20
          have hw23 := (hfr' 23 (by decide) (by decide)).trans hw23
          have hw24 := (hfr' 24 (by decide) (by decide)).trans hw24
          rw [m2, fnI_p hf0]
          rw [m2] at hk1
          have p9 := (hC.1 (sFs S x).toNat (by omega)).2.2.2.2.1
          have pr9 := (hC.2.2.1 (sFs S x).toNat).2.2.2.2.1
          have hlf := lyS_len hT (j := (sFs S x).toNat) (by omega)
          have hpos : pos < (lyS S t).length := (List.getElem?_eq_some_iff.mp (PT_at hT ht hPT)).1
          have hlt := lyS_len hT ht
          show XW _ _ _ _ _ _ 56 _ (_ :: _)
          refine xb_if_ne (tgt := 63) C d_Rn_seek_56 (by decide)  (fun c56 => ?_) (fun c56 => ?_)
          · skip
            have hcs : fnS S (lowR S n rl us) (sFs S x).toNat ≠ -1 := of_decide_eq_true c56
            refine xr_iconst C d_Rn_seek_63 ?_
            refine xr_istore_n C 3 d_Rn_seek_64 rfl (by decide) ?_
            refine xr_aload_n C 0 d_Rn_seek_65 rfl hq0 ?_
            refine xr_get (k := 19) C xg_Rn_32 hw19 (by decide) rfl d_Rn_seek_66 ?_
            refine xr_aload_n C 0 d_Rn_seek_69 rfl hq0 ?_
            refine xr_get (k := 19) C xg_Rn_29 hw19 (by decide) rfl d_Rn_seek_70 ?_
            refine xr_aload_n C 0 d_Rn_seek_73 rfl hq0 ?_
            refine xr_get (k := 19) C xg_Rn_22 hw19 (by decide) rfl d_Rn_seek_74 ?_
            refine xj_iast (k := 23) C (p.length) (by omega) hw23 (by decide) (by omega) (by decide) d_Rn_seek_77 ?_
            refine xr_aload_n C 0 d_Rn_seek_78 rfl hq0 ?_
            refine xr_get (k := 19) C xg_Rn_35 hw19 (by decide) rfl d_Rn_seek_79 ?_
            refine xr_aload_n C 0 d_Rn_seek_82 rfl hq0 ?_
            refine xr_get (k := 19) C xg_Rn_29 hw19 (by decide) rfl d_Rn_seek_83 ?_
            refine xr_iload_n C 3 d_Rn_seek_86 rfl rfl ?_
            refine xj_zast (k := 24) C (p.length) (by omega) hw24 (by decide) (by omega) (by decide) (by omega) d_Rn_seek_87 ?_
            refine xr_aload_n C 0 d_Rn_seek_88 rfl hq0 ?_
            refine xr_dup C rfl d_Rn_seek_89 ?_
            refine xr_get (k := 19) C xg_Rn_29 hw19 (by decide) rfl d_Rn_seek_90 ?_
            refine xr_iconst C d_Rn_seek_93 ?_
            refine xz_iadd C d_Rn_seek_94 ?_
            refine xr_eqz (y := ((p.length + 1 : Nat) : Int)) (by omega) ?_
            refine xr_put (k := 19) C xf_Rn_29 hw19 (by decide) rfl rfl (Nat.le_of_ble_eq_true rfl) d_Rn_seek_95 ?_
            refine xr_aload_n C 0 d_Rn_seek_98 rfl hq0 ?_
            refine xr_dup C rfl d_Rn_seek_99 ?_
            refine xr_get (k := 19) C xg_Rn_26 rfl (by decide) rfl d_Rn_seek_100 ?_
            refine xr_iload_n C 3 d_Rn_seek_103 rfl rfl ?_
            refine xz_if_eq (tgt := 121) C d_Rn_seek_104 (by decide) (by omega) (fun c104 => ?_) (fun c104 => by exfalso; omega)
            refine xr_iconst C d_Rn_seek_121 ?_
            refine xz_iadd C d_Rn_seek_122 ?_
            first
              | refine xr_eqz (y := ((pos + 1 : Nat) : Int)) (by omega) ?_
              | refine xr_eqz (y := ((pos + 1 + (lyS S (sFs S x).toNat).length : Nat) : Int)) (by omega) ?_
            refine xr_put (k := 19) C xf_Rn_26 rfl (by decide) rfl rfl (Nat.le_of_ble_eq_true rfl) d_Rn_seek_123 ?_
            refine xr_aload_n C 0 d_Rn_seek_126 rfl hq0 ?_
            refine xr_iload_n C 3 d_Rn_seek_127 rfl rfl ?_
            refine xz_if_eq (tgt := 146) C d_Rn_seek_128 (by decide) (by omega) (fun c128 => ?_) (fun c128 => by exfalso; omega)
            refine xr_iload_n C 2 d_Rn_seek_146 rfl rfl ?_
            first
              | (refine xr_eqz (y := (((sFs S x).toNat : Nat) : Int)) (by omega) ?_; have := hcs)
              | refine xr_eqz (y := (((sSn S x).toNat : Nat) : Int)) (by unfold shp at sx; omega) ?_
            refine xr_put (k := 19) C xf_Rn_22 rfl (by decide) rfl rfl (Nat.le_of_ble_eq_true rfl) d_Rn_seek_147 ?_
            refine xr_goto (tgt := 15) C d_Rn_seek_150 (by decide) ?_
            first
              | (have hnew : PT S t ((x, false, pos) :: p) (sFs S x).toNat (pos + 1) := ⟨hPT, hnode, Or.inl ⟨rfl, rfl, rfl⟩⟩
                 exact ih (sFs S x).toNat ((x, false, pos) :: p) (pos + 1) _ fo1 γ _ _ _ (by omega) hnew (by rw [← hsk, sk_fst h2x hcs (by omega)]) rfl (by exact hw21') hF' (by exact hk1 hf0) (by exact hw22') hγ rfl rfl ⟨va_eq, va_eq, AR_up hAR (Nat.le_refl _)⟩ (fun k a b c d e => (va_ne a).trans ((va_ne a).trans ((va_ne a).trans ((va_ne e).trans ((va_ne d).trans ((hfr' k b c).trans (hfr k a b c d e))))))) hq0)
              | (have hnew : PT S t ((x, true, pos) :: p) (sSn S x).toNat (pos + 1 + (lyS S (sFs S x).toNat).length) := ⟨hPT, hnode, Or.inr ⟨rfl, h6, rfl, rfl⟩⟩
                 exact ih (sSn S x).toNat ((x, true, pos) :: p) (pos + 1 + (lyS S (sFs S x).toNat).length) _ fo1 γ _ _ _ (by unfold shp at sx; omega) hnew (by rw [← hsk, sk_snd h2x hcs (by unfold shp at sx; omega)]) rfl (by exact hw21') hF' (by rw [hk2 _ (hFc.2 hcs)]; exact hFc.2 hcs) (by exact hw22') hγ rfl rfl ⟨va_eq, va_eq, AR_up hAR (Nat.le_refl _)⟩ (fun k a b c d e => (va_ne a).trans ((va_ne a).trans ((va_ne a).trans ((va_ne e).trans ((va_ne d).trans ((hfr' k b c).trans (hfr k a b c d e))))))) hq0)
          · skip
            have hcs : fnS S (lowR S n rl us) (sFs S x).toNat = -1 := by simpa using of_decide_eq_false c56
            have h6 : 6 ≤ sSg S x := by
              rcases Int.lt_or_le (sSg S x) 6 with q | q
              · exfalso
                unfold shp at sx
                rw [if_neg] at hfe
                · omega
                · rw [fnI_p hf0, hcs]
                  unfold fnI
                  rw [if_pos (by omega)]
                  simp
              · exact q
            refine xr_iconst C d_Rn_seek_59 ?_
            refine xr_goto (tgt := 64) C d_Rn_seek_60 (by decide) ?_
            refine xr_istore_n C 3 d_Rn_seek_64 rfl (by decide) ?_
            refine xr_aload_n C 0 d_Rn_seek_65 rfl hq0 ?_
            refine xr_get (k := 19) C xg_Rn_32 hw19 (by decide) rfl d_Rn_seek_66 ?_
            refine xr_aload_n C 0 d_Rn_seek_69 rfl hq0 ?_
            refine xr_get (k := 19) C xg_Rn_29 hw19 (by decide) rfl d_Rn_seek_70 ?_
            refine xr_aload_n C 0 d_Rn_seek_73 rfl hq0 ?_
            refine xr_get (k := 19) C xg_Rn_22 hw19 (by decide) rfl d_Rn_seek_74 ?_
            refine xj_iast (k := 23) C (p.length) (by omega) hw23 (by decide) (by omega) (by decide) d_Rn_seek_77 ?_
            refine xr_aload_n C 0 d_Rn_seek_78 rfl hq0 ?_
            refine xr_get (k := 19) C xg_Rn_35 hw19 (by decide) rfl d_Rn_seek_79 ?_
            refine xr_aload_n C 0 d_Rn_seek_82 rfl hq0 ?_
            refine xr_get (k := 19) C xg_Rn_29 hw19 (by decide) rfl d_Rn_seek_83 ?_
            refine xr_iload_n C 3 d_Rn_seek_86 rfl rfl ?_
            refine xj_zast (k := 24) C (p.length) (by omega) hw24 (by decide) (by omega) (by decide) (by omega) d_Rn_seek_87 ?_
            refine xr_aload_n C 0 d_Rn_seek_88 rfl hq0 ?_
            refine xr_dup C rfl d_Rn_seek_89 ?_
            refine xr_get (k := 19) C xg_Rn_29 hw19 (by decide) rfl d_Rn_seek_90 ?_
            refine xr_iconst C d_Rn_seek_93 ?_
            refine xz_iadd C d_Rn_seek_94 ?_
            refine xr_eqz (y := ((p.length + 1 : Nat) : Int)) (by omega) ?_
            refine xr_put (k := 19) C xf_Rn_29 hw19 (by decide) rfl rfl (Nat.le_of_ble_eq_true rfl) d_Rn_seek_95 ?_
            refine xr_aload_n C 0 d_Rn_seek_98 rfl hq0 ?_
            refine xr_dup C rfl d_Rn_seek_99 ?_
            refine xr_get (k := 19) C xg_Rn_26 rfl (by decide) rfl d_Rn_seek_100 ?_
            refine xr_iload_n C 3 d_Rn_seek_103 rfl rfl ?_
            refine xz_if_eq (tgt := 121) C d_Rn_seek_104 (by decide) (by omega) (fun c104 => by exfalso; omega) (fun c104 => ?_)
            refine xr_iconst C d_Rn_seek_107 ?_
            refine xr_aload_n C 0 d_Rn_seek_108 rfl hq0 ?_
            refine xr_get (k := 19) C xg_Rn_45 rfl (by decide) rfl d_Rn_seek_109 ?_
            refine xr_get (k := 1) C xg_Rn_136 hw1 (by decide) rfl d_Rn_seek_112 ?_
            refine xr_iload_n C 2 d_Rn_seek_115 rfl rfl ?_
            refine xj_iald (k := 6) C ((sFs S x).toNat) (by omega) hw6 (by decide) (by omega) (by decide) d_Rn_seek_116 ?_
            refine xz_iadd C d_Rn_seek_117 ?_
            refine xr_goto (tgt := 122) C d_Rn_seek_118 (by decide) ?_
            refine xz_iadd C d_Rn_seek_122 ?_
            first
              | refine xr_eqz (y := ((pos + 1 : Nat) : Int)) (by omega) ?_
              | refine xr_eqz (y := ((pos + 1 + (lyS S (sFs S x).toNat).length : Nat) : Int)) (by omega) ?_
            refine xr_put (k := 19) C xf_Rn_26 rfl (by decide) rfl rfl (Nat.le_of_ble_eq_true rfl) d_Rn_seek_123 ?_
            refine xr_aload_n C 0 d_Rn_seek_126 rfl hq0 ?_
            refine xr_iload_n C 3 d_Rn_seek_127 rfl rfl ?_
            refine xz_if_eq (tgt := 146) C d_Rn_seek_128 (by decide) (by omega) (fun c128 => by exfalso; omega) (fun c128 => ?_)
            refine xr_aload_n C 0 d_Rn_seek_131 rfl hq0 ?_
            refine xr_get (k := 19) C xg_Rn_45 rfl (by decide) rfl d_Rn_seek_132 ?_
            refine xr_get (k := 1) C xg_Rn_94 hw1 (by decide) rfl d_Rn_seek_135 ?_
            refine xr_aload_n C 0 d_Rn_seek_138 rfl hq0 ?_
            refine xr_get (k := 19) C xg_Rn_22 rfl (by decide) rfl d_Rn_seek_139 ?_
            refine xj_iald (k := 4) C (x) (by omega) hw4 (by decide) (by omega) (by decide) d_Rn_seek_142 ?_
            refine xr_goto (tgt := 147) C d_Rn_seek_143 (by decide) ?_
            first
              | (refine xr_eqz (y := (((sFs S x).toNat : Nat) : Int)) (by omega) ?_; have := hcs)
              | refine xr_eqz (y := (((sSn S x).toNat : Nat) : Int)) (by unfold shp at sx; omega) ?_
            refine xr_put (k := 19) C xf_Rn_22 rfl (by decide) rfl rfl (Nat.le_of_ble_eq_true rfl) d_Rn_seek_147 ?_
            refine xr_goto (tgt := 15) C d_Rn_seek_150 (by decide) ?_
            first
              | (have hnew : PT S t ((x, false, pos) :: p) (sFs S x).toNat (pos + 1) := ⟨hPT, hnode, Or.inl ⟨rfl, rfl, rfl⟩⟩
                 exact ih (sFs S x).toNat ((x, false, pos) :: p) (pos + 1) _ fo1 γ _ _ _ (by omega) hnew (by rw [← hsk, sk_fst h2x hcs (by omega)]) rfl (by exact hw21') hF' (by exact hk1 hf0) (by exact hw22') hγ rfl rfl ⟨va_eq, va_eq, AR_up hAR (Nat.le_refl _)⟩ (fun k a b c d e => (va_ne a).trans ((va_ne a).trans ((va_ne a).trans ((va_ne e).trans ((va_ne d).trans ((hfr' k b c).trans (hfr k a b c d e))))))) hq0)
              | (have hnew : PT S t ((x, true, pos) :: p) (sSn S x).toNat (pos + 1 + (lyS S (sFs S x).toNat).length) := ⟨hPT, hnode, Or.inr ⟨rfl, h6, rfl, rfl⟩⟩
                 exact ih (sSn S x).toNat ((x, true, pos) :: p) (pos + 1 + (lyS S (sFs S x).toNat).length) _ fo1 γ _ _ _ (by unfold shp at sx; omega) hnew (by rw [← hsk, sk_snd h2x hcs (by unfold shp at sx; omega)]) rfl (by exact hw21') hF' (by rw [hk2 _ (hFc.2 hcs)]; exact hFc.2 hcs) (by exact hw22') hγ rfl rfl ⟨va_eq, va_eq, AR_up hAR (Nat.le_refl _)⟩ (fun k a b c d e => (va_ne a).trans ((va_ne a).trans ((va_ne a).trans ((va_ne e).trans ((va_ne d).trans ((hfr' k b c).trans (hfr k a b c d e))))))) hq0)
  refine xr_aload_n C 0 d_Rn_seek_0 rfl rfl ?_
  refine xr_iload_n C 1 d_Rn_seek_1 rfl rfl ?_
  refine xr_put (k := 19) C xf_Rn_22 hw19 (by decide) rfl rfl (Nat.le_of_ble_eq_true rfl) d_Rn_seek_2 ?_
  refine xr_aload_n C 0 d_Rn_seek_5 rfl rfl ?_
  refine xr_iconst C d_Rn_seek_6 ?_
  refine xr_put (k := 19) C xf_Rn_26 rfl (by decide) rfl rfl (Nat.le_of_ble_eq_true rfl) d_Rn_seek_7 ?_
  refine xr_aload_n C 0 d_Rn_seek_10 rfl rfl ?_
  refine xr_iconst C d_Rn_seek_11 ?_
  refine xr_put (k := 19) C xf_Rn_29 rfl (by decide) rfl rfl (Nat.le_of_ble_eq_true rfl) d_Rn_seek_12 ?_
  exact lp (t + 1) t [] 0 _ fo β ar is _ (by omega) ⟨rfl, rfl⟩ rfl rfl hw21 hF h3 hw22 hβ hw23 hw24 trivial (fun k a _ _ _ _ => (va_ne a).trans ((va_ne a).trans (va_ne a))) rfl
