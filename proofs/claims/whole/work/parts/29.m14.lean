set_option maxHeartbeats 4000000 in
set_option maxRecDepth 100000 in
theorem m_Ar_fill {L : Launch} {D : va_G} {cA : Nat → ClassId} {base : Nat} {ad : Nat → Nat} {w : Nat → va_E} {n k N : Nat} {f0 : Nat → Int} {v : Int} (hk : k < n) (hN : N < 2147483648) (hwk : w k = xIA (cA 0) N f0) : XM L D cA base y_Ar_fill c_Ar_fill 4 none (xrm 0 0 0) [.ref (ad k), .int (zI v)] n ad w (xVoid n ad (fun w' => ∃ f' : Nat → Int, w' k = xIA (cA 0) N f' ∧ (∀ j, j < N → f' j = v) ∧ (∀ j, N ≤ j → f' j = f0 j) ∧ ∀ j, j ≠ k → w' j = w j)) xF := by
  refine xm_of (by decide +kernel) (by simp [Value.category]) (Nat.le_of_ble_eq_true rfl) (fun G C E _ => ?_)
  have lp : ∀ (m i : Nat) (w1 : Nat → va_E) (f : Nat → Int) (lv : Nat → Option Value), N + 1 ≤ i + m → i ≤ N → w1 k = xIA (cA 0) N f → (∀ j, j < i → f j = v) → (∀ j, N ≤ j → f j = f0 j) → (∀ j, j ≠ k → w1 j = w j) → lv 0 = some (.ref (ad k)) → lv 1 = some (.int (zI v)) → lv 2 = some (.int (zI (i : Int))) → lv 3 = some (.int (zI (N : Int))) → XW G n ad w1 0 0 5 lv [] := by
    intro m
    induction m with
    | zero => intro i w1 f lv h1 h2; exact absurd h1 (by omega)
    | succ m ih =>
      intro i w1 f lv h1 h2 hwk hf hg hfr hl0 hl1 hl2 hl3
      refine xr_iload_n C 2 d_Ar_fill_5 rfl hl2 ?_
      refine xr_iload_n C 3 d_Ar_fill_6 rfl hl3 ?_
      refine xz_icmp_ge (tgt := 20) C d_Ar_fill_7 (by decide) (by omega) (by omega) (fun c7 => ?_) (fun c7 => ?_)
      · skip
        exact xr_vret C E ⟨rfl, rfl, rfl, f, hwk, fun j hj => hf j (by omega), hg, hfr⟩ (by decide) (by decide) d_Ar_fill_20
      · skip
        refine xr_aload_n C 0 d_Ar_fill_10 rfl hl0 ?_
        refine xr_iload_n C 2 d_Ar_fill_11 rfl hl2 ?_
        refine xr_iload_n C 1 d_Ar_fill_12 rfl hl1 ?_
        refine xj_iast (k := k) C (i) (by omega) hwk hk (by omega) hN d_Ar_fill_13 ?_
        refine xr_iinc C d_Ar_fill_14 (by decide) hl2 ?_
        refine xr_goto (tgt := 5) C d_Ar_fill_17 (by decide) ?_
        exact ih (i + 1) _ (va_up f i v) _ (by omega) (by omega) va_eq (fun j hj => by
          by_cases e : j = i
          · rw [e, va_eq]
          · rw [va_ne e]; exact hf j (by omega)) (fun j hj => (va_ne (by omega)).trans (hg j hj)) (fun j hj => (va_ne hj).trans (hfr j hj)) hl0 hl1 rfl hl3
  refine xr_iconst C d_Ar_fill_0 ?_
  refine xr_istore_n C 2 d_Ar_fill_1 rfl (by decide) ?_
  refine xr_aload_n C 0 d_Ar_fill_2 rfl rfl ?_
  refine xz_alen (k := k) C (by decide) hwk hk d_Ar_fill_3 ?_
  refine xr_istore_n C 3 d_Ar_fill_4 rfl (by decide) ?_
  exact lp (N + 1) 0 _ f0 _ (by omega) (by omega) hwk (fun j hj => by omega) (fun j _ => rfl) (fun j _ => rfl) rfl rfl rfl rfl
set_option maxHeartbeats 4000000 in
set_option maxRecDepth 100000 in
theorem m_Rn_bind {L : Launch} {D : va_G} {cA : Nat → ClassId} {base : Nat} {ad : Nat → Nat} {w : Nat → va_E} {sp pl le md : Int} {mo : Bool} (hw19 : w 19 = rnO ad sp pl le md mo) {β : Nat → Int} {h : Nat} (hh : h < 6) (hw22 : w 22 = xIA (cA 0) 6 β) (hβ : ∀ h, -1 ≤ β h ∧ β h < 300) {y : Int} (hy : 0 ≤ y ∧ y < 300) : XM L D cA base y_Rn_bind c_Rn_bind 3 (some .boolean) (xrm 0 0 0) [.ref (ad 19), .int (zI (h : Int)), .int (zI y)] 56 ad w (xRet 56 ad (fun z w' => z = xb (decide (β h = -1 ∨ β h = y)) ∧ w' = if β h = -1 then va_up w 22 (xIA (cA 0) 6 (va_up β h y)) else w)) xF := by
  refine xm_of (by decide +kernel) (by simp [Value.category]) (Nat.le_of_ble_eq_true rfl) (fun G C E _ => ?_)
  refine xr_aload_n C 0 d_Rn_bind_0 rfl rfl ?_
  refine xr_get (k := 19) C xg_Rn_19 hw19 (by decide) rfl d_Rn_bind_1 ?_
  refine xr_iload_n C 1 d_Rn_bind_4 rfl rfl ?_
  refine xj_iald (k := 22) C (h) (by omega) hw22 (by decide) (by omega) (by decide) d_Rn_bind_5 ?_
  refine xr_iconst C d_Rn_bind_6 ?_
  have hb9 := hβ h
  refine xz_icmp_ne (tgt := 17) C d_Rn_bind_7 (by decide) (by omega) (by omega) (fun c7 => ?_) (fun c7 => ?_)
  · skip
    refine xr_aload_n C 0 d_Rn_bind_17 rfl rfl ?_
    refine xr_get (k := 19) C xg_Rn_19 hw19 (by decide) rfl d_Rn_bind_18 ?_
    refine xr_iload_n C 1 d_Rn_bind_21 rfl rfl ?_
    refine xj_iald (k := 22) C (h) (by omega) hw22 (by decide) (by omega) (by decide) d_Rn_bind_22 ?_
    refine xr_iload_n C 2 d_Rn_bind_23 rfl rfl ?_
    refine xz_icmp_ne (tgt := 31) C d_Rn_bind_24 (by decide) (by omega) (by omega) (fun c24 => ?_) (fun c24 => ?_)
    · skip
      refine xr_iconst C d_Rn_bind_31 ?_
      exact xr_zret C E (by omega) ⟨rfl, rfl, _, rfl, by first | (rw [decide_eq_true (by omega)]; rfl) | (rw [decide_eq_false (by omega)]; rfl), by first | (rw [if_pos (by omega)]; done) | (rw [if_pos (by omega)]; rfl) | (rw [if_neg (by omega)])⟩ (by decide) (by decide) d_Rn_bind_32
    · skip
      refine xr_iconst C d_Rn_bind_27 ?_
      refine xr_goto (tgt := 32) C d_Rn_bind_28 (by decide) ?_
      exact xr_zret C E (by omega) ⟨rfl, rfl, _, rfl, by first | (rw [decide_eq_true (by omega)]; rfl) | (rw [decide_eq_false (by omega)]; rfl), by first | (rw [if_pos (by omega)]; done) | (rw [if_pos (by omega)]; rfl) | (rw [if_neg (by omega)])⟩ (by decide) (by decide) d_Rn_bind_32
  · skip
    have eu := va_eq (f := β) (k := h) (v := y)
    refine xr_aload_n C 0 d_Rn_bind_10 rfl rfl ?_
    refine xr_get (k := 19) C xg_Rn_19 hw19 (by decide) rfl d_Rn_bind_11 ?_
    refine xr_iload_n C 1 d_Rn_bind_14 rfl rfl ?_
    refine xr_iload_n C 2 d_Rn_bind_15 rfl rfl ?_
    refine xj_iast (k := 22) C (h) (by omega) hw22 (by decide) (by omega) (by decide) d_Rn_bind_16 ?_
    refine xr_aload_n C 0 d_Rn_bind_17 rfl rfl ?_
    refine xr_get (k := 19) C xg_Rn_19 hw19 (by decide) rfl d_Rn_bind_18 ?_
    refine xr_iload_n C 1 d_Rn_bind_21 rfl rfl ?_
    refine xj_iald (k := 22) C (h) (by omega) rfl (by decide) (by omega) (by decide) d_Rn_bind_22 ?_
    refine xr_iload_n C 2 d_Rn_bind_23 rfl rfl ?_
    refine xz_icmp_ne (tgt := 31) C d_Rn_bind_24 (by decide) (by omega) (by omega) (fun c24 => ?_) (fun c24 => ?_)
    · skip
      refine xr_iconst C d_Rn_bind_31 ?_
      exact xr_zret C E (by omega) ⟨rfl, rfl, _, rfl, by first | (rw [decide_eq_true (by omega)]; rfl) | (rw [decide_eq_false (by omega)]; rfl), by first | (rw [if_pos (by omega)]; done) | (rw [if_pos (by omega)]; rfl) | (rw [if_neg (by omega)])⟩ (by decide) (by decide) d_Rn_bind_32
    · skip
      refine xr_iconst C d_Rn_bind_27 ?_
      refine xr_goto (tgt := 32) C d_Rn_bind_28 (by decide) ?_
      exact xr_zret C E (by omega) ⟨rfl, rfl, _, rfl, by first | (rw [decide_eq_true (by omega)]; rfl) | (rw [decide_eq_false (by omega)]; rfl), by first | (rw [if_pos (by omega)]; done) | (rw [if_pos (by omega)]; rfl) | (rw [if_neg (by omega)])⟩ (by decide) (by decide) d_Rn_bind_32
/-- as the system asks it: no part fits no part alone -/
def fitI (S : xS) (x y : Int) (β : Nat → Int) : Option (Nat → Int) := if 0 ≤ x ∧ 0 ≤ y then fitS S x.toNat y.toNat β else if x = y then some β else none
theorem fitI_lo {S : xS} (hT : Tb S) {x y : Int} {β : Nat → Int} (hx : -1 ≤ x ∧ x < sN S) (hy : -1 ≤ y ∧ y < sN S) (h : x < 0 ∨ y < 0 ∨ sHo S x.toNat = 0) : fitI S x y β = if x = y then some β else none := by
  unfold fitI
  by_cases q : 0 ≤ x ∧ 0 ≤ y
  · rw [if_pos q, fit_plain hT _ _ β (by omega) (by omega) (by omega)]
    by_cases e : x = y
    · rw [if_pos e, if_pos (by omega)]
    · rw [if_neg e, if_neg (by omega)]
  · rw [if_neg q]
theorem leaf_plain {S : xS} (hT : Tb S) {p : Nat} (hp : p < sN S) (h : 100 ≤ sSg S p) (h2 : sSg S p < 200) : sHo S p = 0 := by
  have hs := (hT.2.1 p hp).1
  refine (pln_iff hT hp).mpr (fun i hi => ?_)
  rw [cnt_eq hs]
  unfold cntN
  unfold shp at hs
  rw [if_neg (by omega : ¬ sSg S p = 200 + (i : Int)), if_pos (by omega : sFs S p < 0), if_pos (by omega : sSn S p < 0)]
  rfl
theorem fitI_node {S : xS} (hT : Tb S) {x y : Nat} {β : Nat → Int} (hx : x < sN S) (hy : y < sN S) (h1 : sSg S x = sSg S y) (h2 : sSg S x < 100) : fitI S (x : Int) (y : Int) β = (fitI S (sFs S x) (sFs S y) β).bind (fun b => fitI S (sSn S x) (sSn S y) b) := by
  have sx := (hT.2.1 x hx).1
  have sy := (hT.2.1 y hy).1
  unfold shp at sx sy
  have e1 : fitI S (x : Int) (y : Int) β = fitS S x y β := by unfold fitI; rw [if_pos (by omega)]; rfl
  have e2 : fitI S (sFs S x) (sFs S y) β = fitS S (sFs S x).toNat (sFs S y).toNat β := by unfold fitI; rw [if_pos (by omega)]
  rw [e1, e2]
  rcases Int.lt_or_le (sSg S x) 6 with q | q
  · rw [fit_1 h1 q (by omega)]
    cases fitS S (sFs S x).toNat (sFs S y).toNat β with
    | none => rfl
    | some b =>
      show some b = fitI S (sSn S x) (sSn S y) b
      unfold fitI
      rw [if_neg (by omega), if_pos (by omega)]
  · rw [fit_2 h1 q h2 (by omega) (by omega)]
    congr 1
    funext b
    unfold fitI
    rw [if_pos (by omega)]
theorem fitI_h {S : xS} {x y : Nat} {β : Nat → Int} (h : 200 ≤ sSg S x) : fitI S (x : Int) (y : Int) β = if β (sSg S x - 200).toNat = -1 then some (va_up β (sSg S x - 200).toNat (y : Int)) else if β (sSg S x - 200).toNat = (y : Int) then some β else none := by
  unfold fitI
  rw [if_pos (by omega), Int.toNat_natCast, Int.toNat_natCast, fit_h h]
theorem fitI_ne {S : xS} {x y : Nat} {β : Nat → Int} (h : sSg S x < 200) (h1 : sSg S x ≠ sSg S y) : fitI S (x : Int) (y : Int) β = none := by
  unfold fitI
  rw [if_pos (by omega), Int.toNat_natCast, Int.toNat_natCast, fit_ne h h1]
theorem ct_fr {ad : Nat → Nat} {cA : Nat → ClassId} {w w' : Nat → va_E} {S : xS} (h : CT ad cA w S) (hf : ∀ k, 1 ≤ k → k ≤ 11 → w' k = w k) : CT ad cA w' S := by
  obtain ⟨mk, fs, sn, wt, pl, dp, ho, hc, nw, od, hw1, hw2, hw3, hw4, hw5, hw6, hw7, hw8, hw9, hw10, hw11, hC⟩ := h
  exact ⟨mk, fs, sn, wt, pl, dp, ho, hc, nw, od, (hf 1 (by decide) (by decide)).trans hw1, (hf 2 (by decide) (by decide)).trans hw2, (hf 3 (by decide) (by decide)).trans hw3, (hf 4 (by decide) (by decide)).trans hw4, (hf 5 (by decide) (by decide)).trans hw5, (hf 6 (by decide) (by decide)).trans hw6, (hf 7 (by decide) (by decide)).trans hw7, (hf 8 (by decide) (by decide)).trans hw8, (hf 9 (by decide) (by decide)).trans hw9, (hf 10 (by decide) (by decide)).trans hw10, (hf 11 (by decide) (by decide)).trans hw11, hC⟩
set_option maxHeartbeats 4000000 in
set_option maxRecDepth 100000 in
theorem m_Rn_fits {L : Launch} {D : va_G} {cA : Nat → ClassId} {base : Nat} {ad : Nat → Nat} {S : xS} {sp pl le md : Int} {mo : Bool} (hT : Tb S) : ∀ (d : Nat) {w : Nat → va_E} {β : Nat → Int} {x y : Int}, CT ad cA w S → w 19 = rnO ad sp pl le md mo → w 22 = xIA (cA 0) 6 β → (∀ h, -1 ≤ β h ∧ β h < 300) → (-1 ≤ x ∧ x < sN S) → (-1 ≤ y ∧ y < sN S) → (0 ≤ x → sDp S x.toNat + 1 ≤ d) →
    XM L D cA base y_Rn_fits c_Rn_fits 4 (some .boolean) (xrm d 0 0) [.ref (ad 19), .int (zI x), .int (zI y)] 56 ad w (xRet 56 ad (fun z w' => z = xb (fitI S x y β).isSome ∧ (∃ γ, w' 22 = xIA (cA 0) 6 γ ∧ (∀ h, -1 ≤ γ h ∧ γ h < 300) ∧ ∀ b, fitI S x y β = some b → γ = b) ∧ ∀ k, k ≠ 22 → w' k = w k)) xF := by
  intro d
  induction d with
  | zero =>
    intro w β x y hCT hw19 hw22 hβ hx hy hd
    have hx0 : x < 0 := by
      rcases Int.lt_or_le x 0 with q | q
      · exact q
      · have := hd q
        have := (hT.2.1 x.toNat (by omega)).2.2.2.2.2
        omega
    have hN := hT.1
    refine xm_of (by decide +kernel) (by simp [Value.category]) (Nat.le_of_ble_eq_true rfl) (fun G C E _ => ?_)
    refine xr_iload_n C 1 d_Rn_fits_0 rfl rfl ?_
    refine xz_if_lt (tgt := 20) C d_Rn_fits_1 (by decide) (by omega) (fun c1 => ?_) (fun c1 => by exfalso; omega)
    refine xr_iload_n C 1 d_Rn_fits_20 rfl rfl ?_
    refine xr_iload_n C 2 d_Rn_fits_21 rfl rfl ?_
    refine xz_icmp_ne (tgt := 29) C d_Rn_fits_22 (by decide) (by omega) (by omega) (fun c22 => ?_) (fun c22 => ?_)
    · skip
      refine xr_iconst C d_Rn_fits_29 ?_
      exact xr_zret C E (by omega) (by first | exact ⟨rfl, rfl, _, rfl, by rw [(fitI_lo hT (by omega) (by omega) (Or.inl (by omega)))]; first | (rw [if_pos (by omega)]; rfl) | (rw [if_neg (by omega)]; rfl), ⟨β, hw22, hβ, fun b hb => by
        rw [(fitI_lo hT (by omega) (by omega) (Or.inl (by omega)))] at hb
        first
        | (rw [if_pos (by omega)] at hb; exact Option.some.inj hb)
        | (rw [if_neg (by omega)] at hb; cases hb)⟩, fun k _ => rfl⟩ | exact ⟨rfl, rfl, _, rfl, by rw [(fitI_lo hT (by omega) (by omega) (Or.inr (Or.inl (by omega))))]; first | (rw [if_pos (by omega)]; rfl) | (rw [if_neg (by omega)]; rfl), ⟨β, hw22, hβ, fun b hb => by
        rw [(fitI_lo hT (by omega) (by omega) (Or.inr (Or.inl (by omega))))] at hb
        first
        | (rw [if_pos (by omega)] at hb; exact Option.some.inj hb)
        | (rw [if_neg (by omega)] at hb; cases hb)⟩, fun k _ => rfl⟩ | exact ⟨rfl, rfl, _, rfl, by rw [(fitI_lo hT (by omega) (by omega) (Or.inr (Or.inr (by first | omega | (rw [Int.toNat_natCast]; omega)))))]; first | (rw [if_pos (by omega)]; rfl) | (rw [if_neg (by omega)]; rfl), ⟨β, hw22, hβ, fun b hb => by
        rw [(fitI_lo hT (by omega) (by omega) (Or.inr (Or.inr (by first | omega | (rw [Int.toNat_natCast]; omega)))))] at hb
        first
        | (rw [if_pos (by omega)] at hb; exact Option.some.inj hb)
        | (rw [if_neg (by omega)] at hb; cases hb)⟩, fun k _ => rfl⟩) (Nat.le_of_ble_eq_true rfl) (Nat.le_of_ble_eq_true rfl) d_Rn_fits_30
    · skip
      refine xr_iconst C d_Rn_fits_25 ?_
      refine xr_goto (tgt := 30) C d_Rn_fits_26 (by decide) ?_
      exact xr_zret C E (by omega) (by first | exact ⟨rfl, rfl, _, rfl, by rw [(fitI_lo hT (by omega) (by omega) (Or.inl (by omega)))]; first | (rw [if_pos (by omega)]; rfl) | (rw [if_neg (by omega)]; rfl), ⟨β, hw22, hβ, fun b hb => by
        rw [(fitI_lo hT (by omega) (by omega) (Or.inl (by omega)))] at hb
        first
        | (rw [if_pos (by omega)] at hb; exact Option.some.inj hb)
        | (rw [if_neg (by omega)] at hb; cases hb)⟩, fun k _ => rfl⟩ | exact ⟨rfl, rfl, _, rfl, by rw [(fitI_lo hT (by omega) (by omega) (Or.inr (Or.inl (by omega))))]; first | (rw [if_pos (by omega)]; rfl) | (rw [if_neg (by omega)]; rfl), ⟨β, hw22, hβ, fun b hb => by
        rw [(fitI_lo hT (by omega) (by omega) (Or.inr (Or.inl (by omega))))] at hb
        first
        | (rw [if_pos (by omega)] at hb; exact Option.some.inj hb)
        | (rw [if_neg (by omega)] at hb; cases hb)⟩, fun k _ => rfl⟩ | exact ⟨rfl, rfl, _, rfl, by rw [(fitI_lo hT (by omega) (by omega) (Or.inr (Or.inr (by first | omega | (rw [Int.toNat_natCast]; omega)))))]; first | (rw [if_pos (by omega)]; rfl) | (rw [if_neg (by omega)]; rfl), ⟨β, hw22, hβ, fun b hb => by
        rw [(fitI_lo hT (by omega) (by omega) (Or.inr (Or.inr (by first | omega | (rw [Int.toNat_natCast]; omega)))))] at hb
        first
        | (rw [if_pos (by omega)] at hb; exact Option.some.inj hb)
        | (rw [if_neg (by omega)] at hb; cases hb)⟩, fun k _ => rfl⟩) (Nat.le_of_ble_eq_true rfl) (Nat.le_of_ble_eq_true rfl) d_Rn_fits_30
  | succ d ih =>
    intro w β x y hCT hw19 hw22 hβ hx hy hd
    have hN := hT.1
    obtain ⟨mk, fs, sn, wt, pl, dp, ho, hc, nw, od, hw1, hw2, hw3, hw4, hw5, hw6, hw7, hw8, hw9, hw10, hw11, hC⟩ := id hCT
    refine xm_of (by decide +kernel) (by simp [Value.category]) (Nat.le_of_ble_eq_true rfl) (fun G C E _ => ?_)
    refine xr_iload_n C 1 d_Rn_fits_0 rfl rfl ?_
    refine xz_if_lt (tgt := 20) C d_Rn_fits_1 (by decide) (by omega) (fun c1 => ?_) (fun c1 => ?_)
    · skip
      refine xr_iload_n C 1 d_Rn_fits_20 rfl rfl ?_
      refine xr_iload_n C 2 d_Rn_fits_21 rfl rfl ?_
      refine xz_icmp_ne (tgt := 29) C d_Rn_fits_22 (by decide) (by omega) (by omega) (fun c22 => ?_) (fun c22 => ?_)
      · skip
        refine xr_iconst C d_Rn_fits_29 ?_
        exact xr_zret C E (by omega) (by first | exact ⟨rfl, rfl, _, rfl, by rw [(fitI_lo hT (by omega) (by omega) (Or.inl (by omega)))]; first | (rw [if_pos (by omega)]; rfl) | (rw [if_neg (by omega)]; rfl), ⟨β, hw22, hβ, fun b hb => by
          rw [(fitI_lo hT (by omega) (by omega) (Or.inl (by omega)))] at hb
          first
          | (rw [if_pos (by omega)] at hb; exact Option.some.inj hb)
          | (rw [if_neg (by omega)] at hb; cases hb)⟩, fun k _ => rfl⟩ | exact ⟨rfl, rfl, _, rfl, by rw [(fitI_lo hT (by omega) (by omega) (Or.inr (Or.inl (by omega))))]; first | (rw [if_pos (by omega)]; rfl) | (rw [if_neg (by omega)]; rfl), ⟨β, hw22, hβ, fun b hb => by
          rw [(fitI_lo hT (by omega) (by omega) (Or.inr (Or.inl (by omega))))] at hb
          first
          | (rw [if_pos (by omega)] at hb; exact Option.some.inj hb)
          | (rw [if_neg (by omega)] at hb; cases hb)⟩, fun k _ => rfl⟩ | exact ⟨rfl, rfl, _, rfl, by rw [(fitI_lo hT (by omega) (by omega) (Or.inr (Or.inr (by first | omega | (rw [Int.toNat_natCast]; omega)))))]; first | (rw [if_pos (by omega)]; rfl) | (rw [if_neg (by omega)]; rfl), ⟨β, hw22, hβ, fun b hb => by
          rw [(fitI_lo hT (by omega) (by omega) (Or.inr (Or.inr (by first | omega | (rw [Int.toNat_natCast]; omega)))))] at hb
          first
          | (rw [if_pos (by omega)] at hb; exact Option.some.inj hb)
          | (rw [if_neg (by omega)] at hb; cases hb)⟩, fun k _ => rfl⟩) (Nat.le_of_ble_eq_true rfl) (Nat.le_of_ble_eq_true rfl) d_Rn_fits_30
      · skip
        refine xr_iconst C d_Rn_fits_25 ?_
        refine xr_goto (tgt := 30) C d_Rn_fits_26 (by decide) ?_
        exact xr_zret C E (by omega) (by first | exact ⟨rfl, rfl, _, rfl, by rw [(fitI_lo hT (by omega) (by omega) (Or.inl (by omega)))]; first | (rw [if_pos (by omega)]; rfl) | (rw [if_neg (by omega)]; rfl), ⟨β, hw22, hβ, fun b hb => by
          rw [(fitI_lo hT (by omega) (by omega) (Or.inl (by omega)))] at hb
          first
          | (rw [if_pos (by omega)] at hb; exact Option.some.inj hb)
          | (rw [if_neg (by omega)] at hb; cases hb)⟩, fun k _ => rfl⟩ | exact ⟨rfl, rfl, _, rfl, by rw [(fitI_lo hT (by omega) (by omega) (Or.inr (Or.inl (by omega))))]; first | (rw [if_pos (by omega)]; rfl) | (rw [if_neg (by omega)]; rfl), ⟨β, hw22, hβ, fun b hb => by
          rw [(fitI_lo hT (by omega) (by omega) (Or.inr (Or.inl (by omega))))] at hb
          first
          | (rw [if_pos (by omega)] at hb; exact Option.some.inj hb)
          | (rw [if_neg (by omega)] at hb; cases hb)⟩, fun k _ => rfl⟩ | exact ⟨rfl, rfl, _, rfl, by rw [(fitI_lo hT (by omega) (by omega) (Or.inr (Or.inr (by first | omega | (rw [Int.toNat_natCast]; omega)))))]; first | (rw [if_pos (by omega)]; rfl) | (rw [if_neg (by omega)]; rfl), ⟨β, hw22, hβ, fun b hb => by
          rw [(fitI_lo hT (by omega) (by omega) (Or.inr (Or.inr (by first | omega | (rw [Int.toNat_natCast]; omega)))))] at hb
          first
          | (rw [if_pos (by omega)] at hb; exact Option.some.inj hb)
          | (rw [if_neg (by omega)] at hb; cases hb)⟩, fun k _ => rfl⟩) (Nat.le_of_ble_eq_true rfl) (Nat.le_of_ble_eq_true rfl) d_Rn_fits_30
    · skip
      refine xr_iload_n C 2 d_Rn_fits_4 rfl rfl ?_
      refine xz_if_lt (tgt := 20) C d_Rn_fits_5 (by decide) (by omega) (fun c5 => ?_) (fun c5 => ?_)
      · skip
        refine xr_iload_n C 1 d_Rn_fits_20 rfl rfl ?_
        refine xr_iload_n C 2 d_Rn_fits_21 rfl rfl ?_
        refine xz_icmp_ne (tgt := 29) C d_Rn_fits_22 (by decide) (by omega) (by omega) (fun c22 => ?_) (fun c22 => ?_)
        · skip
          refine xr_iconst C d_Rn_fits_29 ?_
          exact xr_zret C E (by omega) (by first | exact ⟨rfl, rfl, _, rfl, by rw [(fitI_lo hT (by omega) (by omega) (Or.inl (by omega)))]; first | (rw [if_pos (by omega)]; rfl) | (rw [if_neg (by omega)]; rfl), ⟨β, hw22, hβ, fun b hb => by
            rw [(fitI_lo hT (by omega) (by omega) (Or.inl (by omega)))] at hb
            first
            | (rw [if_pos (by omega)] at hb; exact Option.some.inj hb)
            | (rw [if_neg (by omega)] at hb; cases hb)⟩, fun k _ => rfl⟩ | exact ⟨rfl, rfl, _, rfl, by rw [(fitI_lo hT (by omega) (by omega) (Or.inr (Or.inl (by omega))))]; first | (rw [if_pos (by omega)]; rfl) | (rw [if_neg (by omega)]; rfl), ⟨β, hw22, hβ, fun b hb => by
            rw [(fitI_lo hT (by omega) (by omega) (Or.inr (Or.inl (by omega))))] at hb
            first
            | (rw [if_pos (by omega)] at hb; exact Option.some.inj hb)
            | (rw [if_neg (by omega)] at hb; cases hb)⟩, fun k _ => rfl⟩ | exact ⟨rfl, rfl, _, rfl, by rw [(fitI_lo hT (by omega) (by omega) (Or.inr (Or.inr (by first | omega | (rw [Int.toNat_natCast]; omega)))))]; first | (rw [if_pos (by omega)]; rfl) | (rw [if_neg (by omega)]; rfl), ⟨β, hw22, hβ, fun b hb => by
            rw [(fitI_lo hT (by omega) (by omega) (Or.inr (Or.inr (by first | omega | (rw [Int.toNat_natCast]; omega)))))] at hb
            first
            | (rw [if_pos (by omega)] at hb; exact Option.some.inj hb)
            | (rw [if_neg (by omega)] at hb; cases hb)⟩, fun k _ => rfl⟩) (Nat.le_of_ble_eq_true rfl) (Nat.le_of_ble_eq_true rfl) d_Rn_fits_30
        · skip
          refine xr_iconst C d_Rn_fits_25 ?_
          refine xr_goto (tgt := 30) C d_Rn_fits_26 (by decide) ?_
          exact xr_zret C E (by omega) (by first | exact ⟨rfl, rfl, _, rfl, by rw [(fitI_lo hT (by omega) (by omega) (Or.inl (by omega)))]; first | (rw [if_pos (by omega)]; rfl) | (rw [if_neg (by omega)]; rfl), ⟨β, hw22, hβ, fun b hb => by
            rw [(fitI_lo hT (by omega) (by omega) (Or.inl (by omega)))] at hb
            first
            | (rw [if_pos (by omega)] at hb; exact Option.some.inj hb)
            | (rw [if_neg (by omega)] at hb; cases hb)⟩, fun k _ => rfl⟩ | exact ⟨rfl, rfl, _, rfl, by rw [(fitI_lo hT (by omega) (by omega) (Or.inr (Or.inl (by omega))))]; first | (rw [if_pos (by omega)]; rfl) | (rw [if_neg (by omega)]; rfl), ⟨β, hw22, hβ, fun b hb => by
            rw [(fitI_lo hT (by omega) (by omega) (Or.inr (Or.inl (by omega))))] at hb
            first
            | (rw [if_pos (by omega)] at hb; exact Option.some.inj hb)
            | (rw [if_neg (by omega)] at hb; cases hb)⟩, fun k _ => rfl⟩ | exact ⟨rfl, rfl, _, rfl, by rw [(fitI_lo hT (by omega) (by omega) (Or.inr (Or.inr (by first | omega | (rw [Int.toNat_natCast]; omega)))))]; first | (rw [if_pos (by omega)]; rfl) | (rw [if_neg (by omega)]; rfl), ⟨β, hw22, hβ, fun b hb => by
            rw [(fitI_lo hT (by omega) (by omega) (Or.inr (Or.inr (by first | omega | (rw [Int.toNat_natCast]; omega)))))] at hb
            first
            | (rw [if_pos (by omega)] at hb; exact Option.some.inj hb)
            | (rw [if_neg (by omega)] at hb; cases hb)⟩, fun k _ => rfl⟩) (Nat.le_of_ble_eq_true rfl) (Nat.le_of_ble_eq_true rfl) d_Rn_fits_30
      · skip
        obtain ⟨x, rfl⟩ : ∃ q : Nat, x = (q : Int) := ⟨x.toNat, by omega⟩
        obtain ⟨y, rfl⟩ : ∃ q : Nat, y = (q : Int) := ⟨y.toNat, by omega⟩
        rw [Int.toNat_natCast] at *
        have hxN : x < sN S := by omega
        have hyN : y < sN S := by omega
        obtain ⟨m1, m2, m3, -, -, -, m7⟩ := hC.1 x hxN
        obtain ⟨n1, n2, n3, -⟩ := hC.1 y hyN
        have r7 := (hC.2.2.1 x).2.2.2.2.2.2.1
        have r1 := (hC.2.2.1 x).1
        have s1 := (hC.2.2.1 y).1
        obtain ⟨sx, -⟩ := hT.2.1 x hxN
        obtain ⟨sy, -⟩ := hT.2.1 y hyN
        have hux := um_eq sx
        have huy := um_eq sy
        have hd9 := hd (by omega)
        have hdc := dp_child hT hxN
        refine xr_aload_n C 0 d_Rn_fits_8 rfl rfl ?_
        refine xr_get (k := 19) C xg_Rn_45 hw19 (by decide) rfl d_Rn_fits_9 ?_
        refine xr_get (k := 1) C xg_Rn_116 hw1 (by decide) rfl d_Rn_fits_12 ?_
        refine xr_iload_n C 1 d_Rn_fits_15 rfl rfl ?_
        refine xj_iald (k := 8) C (x) (by omega) hw8 (by decide) (by omega) (by decide) d_Rn_fits_16 ?_
        refine xz_if_ne (tgt := 31) C d_Rn_fits_17 (by decide) (by omega) (fun c17 => ?_) (fun c17 => ?_)
        · skip
          refine xr_aload_n C 0 d_Rn_fits_31 rfl rfl ?_
          refine xr_get (k := 19) C xg_Rn_45 hw19 (by decide) rfl d_Rn_fits_32 ?_
          refine xr_get (k := 1) C xg_Rn_107 hw1 (by decide) rfl d_Rn_fits_35 ?_
          refine xr_iload_n C 1 d_Rn_fits_38 rfl rfl ?_
          refine xj_iald (k := 2) C (x) (by omega) hw2 (by decide) (by omega) (by decide) d_Rn_fits_39 ?_
          refine xr_istore_n C 3 d_Rn_fits_40 rfl (by decide) ?_
          refine xr_iload_n C 3 d_Rn_fits_41 rfl rfl ?_
          refine xr_bipush C d_Rn_fits_42 (by decide) ?_
          refine xz_icmp_lt (tgt := 57) C d_Rn_fits_44 (by decide) (by omega) (by omega) (fun c44 => ?_) (fun c44 => ?_)
          · skip
            have hnx : sSg S x < 100 := by
              rcases Int.lt_or_le (sSg S x) 100 with q | q
              · exact q
              · have := leaf_plain hT hxN q (by unfold shp at sx; omega)
                omega
            refine xr_iload_n C 3 d_Rn_fits_57 rfl rfl ?_
            refine xr_aload_n C 0 d_Rn_fits_58 rfl rfl ?_
            refine xr_get (k := 19) C xg_Rn_45 hw19 (by decide) rfl d_Rn_fits_59 ?_
            refine xr_get (k := 1) C xg_Rn_107 hw1 (by decide) rfl d_Rn_fits_62 ?_
            refine xr_iload_n C 2 d_Rn_fits_65 rfl rfl ?_
            refine xj_iald (k := 2) C (y) (by omega) hw2 (by decide) (by omega) (by decide) d_Rn_fits_66 ?_
            refine xz_icmp_ne (tgt := 124) C d_Rn_fits_67 (by decide) (by omega) (by omega) (fun c67 => ?_) (fun c67 => ?_)
            · skip
              have hsg : sSg S x ≠ sSg S y := by
                intro e
                rw [← e] at n1
                omega
              have hfn := fitI_ne (β := β) (by omega) hsg
              refine xr_iconst C d_Rn_fits_124 ?_
              exact xr_zret C E (by omega) (by
                first
                | exact ⟨rfl, rfl, _, rfl, by rw [hfn, c117]; rfl, ⟨δ, hw22'', hδ, fun b hb => hδb b (hfn.symm.trans hb)⟩, fun k hk => (hfr' k hk).trans (hfr k hk)⟩
                | exact ⟨rfl, rfl, _, rfl, by rw [hfn]; rfl, ⟨γ, hw22', hγ, fun b hb => by rw [hfn] at hb; cases hb⟩, hfr⟩
                | exact ⟨rfl, rfl, _, rfl, by rw [hfn]; rfl, ⟨β, hw22, hβ, fun b hb => by rw [hfn] at hb; cases hb⟩, fun k _ => rfl⟩) (Nat.le_of_ble_eq_true rfl) (Nat.le_of_ble_eq_true rfl) d_Rn_fits_125
            · skip
              have hsg : sSg S x = sSg S y := by unfold shp at sx sy; omega
              have hfn := fitI_node (β := β) hT hxN hyN hsg hnx
              unfold shp at sx sy
              refine xr_aload_n C 0 d_Rn_fits_70 rfl rfl ?_
              refine xr_aload_n C 0 d_Rn_fits_71 rfl rfl ?_
              refine xr_get (k := 19) C xg_Rn_45 hw19 (by decide) rfl d_Rn_fits_72 ?_
              refine xr_get (k := 1) C xg_Rn_89 hw1 (by decide) rfl d_Rn_fits_75 ?_
              refine xr_iload_n C 1 d_Rn_fits_78 rfl rfl ?_
              refine xj_iald (k := 3) C (x) (by omega) hw3 (by decide) (by omega) (by decide) d_Rn_fits_79 ?_
              refine xr_aload_n C 0 d_Rn_fits_80 rfl rfl ?_
              refine xr_get (k := 19) C xg_Rn_45 hw19 (by decide) rfl d_Rn_fits_81 ?_
              refine xr_get (k := 1) C xg_Rn_89 hw1 (by decide) rfl d_Rn_fits_84 ?_
              refine xr_iload_n C 2 d_Rn_fits_87 rfl rfl ?_
              refine xj_iald (k := 3) C (y) (by omega) hw3 (by decide) (by omega) (by decide) d_Rn_fits_88 ?_
              refine xr_callV (k9 := 19) C (ih (x := fs x) (y := fs y) hCT hw19 hw22 hβ (by omega) (by omega) (fun _ => by rw [m2]; omega)) xm_Rn_113 x2_Rn_fits hw19 (by decide) rfl ⟨by show d + 1 ≤ d + 1; omega, by show 8 + (4 + 11) + 40 * (d) ≤ 40 * (d + 1); omega⟩ ⟨Nat.le_of_ble_eq_true rfl, Nat.le_of_ble_eq_true rfl⟩ (Nat.le_of_ble_eq_true rfl) rfl d_Rn_fits_89 (fun En n9 ad9 w9 hx9 => hx9.elim) (fun v n9 ad9 w9 hp => ?_)
              obtain ⟨rfl, rfl, z, rfl, rfl, ⟨γ, hw22', hγ, hγb⟩, hfr⟩ := hp
              have hw19 := (hfr 19 (by decide)).trans hw19
              have hw1 := (hfr 1 (by decide)).trans hw1
              have hw4 := (hfr 4 (by decide)).trans hw4
              rw [m2, n2] at *
              show XW _ _ _ _ _ _ 92 _ (_ :: _)
              refine xb_if_eq (tgt := 124) C d_Rn_fits_92 (by decide)  (fun c92 => ?_) (fun c92 => ?_)
              · skip
                have hfn : fitI S (x : Int) (y : Int) β = none := by rw [hfn, Option.isSome_eq_false_iff.mp c92 |> Option.isNone_iff_eq_none.mp]; rfl
                refine xr_iconst C d_Rn_fits_124 ?_
                exact xr_zret C E (by omega) (by
                  first
                  | exact ⟨rfl, rfl, _, rfl, by rw [hfn, c117]; rfl, ⟨δ, hw22'', hδ, fun b hb => hδb b (hfn.symm.trans hb)⟩, fun k hk => (hfr' k hk).trans (hfr k hk)⟩
                  | exact ⟨rfl, rfl, _, rfl, by rw [hfn]; rfl, ⟨γ, hw22', hγ, fun b hb => by rw [hfn] at hb; cases hb⟩, hfr⟩
                  | exact ⟨rfl, rfl, _, rfl, by rw [hfn]; rfl, ⟨β, hw22, hβ, fun b hb => by rw [hfn] at hb; cases hb⟩, fun k _ => rfl⟩) (Nat.le_of_ble_eq_true rfl) (Nat.le_of_ble_eq_true rfl) d_Rn_fits_125
              · skip
                obtain ⟨b, hb⟩ := Option.isSome_iff_exists.mp c92
                have hγ9 := hγb b hb
                subst hγ9
                rw [hb] at hfn
                have hfn : fitI S (x : Int) (y : Int) β = fitI S (sSn S x) (sSn S y) γ := hfn
                refine xr_aload_n C 0 d_Rn_fits_95 rfl rfl ?_
                refine xr_aload_n C 0 d_Rn_fits_96 rfl rfl ?_
                refine xr_get (k := 19) C xg_Rn_45 hw19 (by decide) rfl d_Rn_fits_97 ?_
                refine xr_get (k := 1) C xg_Rn_94 hw1 (by decide) rfl d_Rn_fits_100 ?_
                refine xr_iload_n C 1 d_Rn_fits_103 rfl rfl ?_
                refine xj_iald (k := 4) C (x) (by omega) hw4 (by decide) (by omega) (by decide) d_Rn_fits_104 ?_
                refine xr_aload_n C 0 d_Rn_fits_105 rfl rfl ?_
                refine xr_get (k := 19) C xg_Rn_45 hw19 (by decide) rfl d_Rn_fits_106 ?_
                refine xr_get (k := 1) C xg_Rn_94 hw1 (by decide) rfl d_Rn_fits_109 ?_
                refine xr_iload_n C 2 d_Rn_fits_112 rfl rfl ?_
                refine xj_iald (k := 4) C (y) (by omega) hw4 (by decide) (by omega) (by decide) d_Rn_fits_113 ?_
                refine xr_callV (k9 := 19) C (ih (x := sn x) (y := sn y) (ct_fr hCT (fun k a b => hfr k (by omega))) hw19 hw22' hγ (by omega) (by omega) (fun _ => by rw [m3]; omega)) xm_Rn_113 x2_Rn_fits hw19 (by decide) rfl ⟨by show d + 1 ≤ d + 1; omega, by show 8 + (4 + 11) + 40 * (d) ≤ 40 * (d + 1); omega⟩ ⟨Nat.le_of_ble_eq_true rfl, Nat.le_of_ble_eq_true rfl⟩ (Nat.le_of_ble_eq_true rfl) rfl d_Rn_fits_114 (fun En n9 ad9 w9 hx9 => hx9.elim) (fun v n9 ad9 w9 hp => ?_)
                obtain ⟨rfl, rfl, z, rfl, rfl, ⟨δ, hw22'', hδ, hδb⟩, hfr'⟩ := hp
                rw [m3, n3] at *
                show XW _ _ _ _ _ _ 117 _ (_ :: _)
                refine xb_if_eq (tgt := 124) C d_Rn_fits_117 (by decide)  (fun c117 => ?_) (fun c117 => ?_)
                · skip
                  refine xr_iconst C d_Rn_fits_124 ?_
                  exact xr_zret C E (by omega) (by
                    first
                    | exact ⟨rfl, rfl, _, rfl, by rw [hfn, c117]; rfl, ⟨δ, hw22'', hδ, fun b hb => hδb b (hfn.symm.trans hb)⟩, fun k hk => (hfr' k hk).trans (hfr k hk)⟩
                    | exact ⟨rfl, rfl, _, rfl, by rw [hfn]; rfl, ⟨γ, hw22', hγ, fun b hb => by rw [hfn] at hb; cases hb⟩, hfr⟩
                    | exact ⟨rfl, rfl, _, rfl, by rw [hfn]; rfl, ⟨β, hw22, hβ, fun b hb => by rw [hfn] at hb; cases hb⟩, fun k _ => rfl⟩) (Nat.le_of_ble_eq_true rfl) (Nat.le_of_ble_eq_true rfl) d_Rn_fits_125
                · skip
                  refine xr_iconst C d_Rn_fits_120 ?_
                  refine xr_goto (tgt := 125) C d_Rn_fits_121 (by decide) ?_
                  exact xr_zret C E (by omega) (by
                    first
                    | exact ⟨rfl, rfl, _, rfl, by rw [hfn, c117]; rfl, ⟨δ, hw22'', hδ, fun b hb => hδb b (hfn.symm.trans hb)⟩, fun k hk => (hfr' k hk).trans (hfr k hk)⟩
                    | exact ⟨rfl, rfl, _, rfl, by rw [hfn]; rfl, ⟨γ, hw22', hγ, fun b hb => by rw [hfn] at hb; cases hb⟩, hfr⟩
                    | exact ⟨rfl, rfl, _, rfl, by rw [hfn]; rfl, ⟨β, hw22, hβ, fun b hb => by rw [hfn] at hb; cases hb⟩, fun k _ => rfl⟩) (Nat.le_of_ble_eq_true rfl) (Nat.le_of_ble_eq_true rfl) d_Rn_fits_125
          · skip
            have hhx : 200 ≤ sSg S x := by unfold shp at sx; omega
            refine xr_aload_n C 0 d_Rn_fits_47 rfl rfl ?_
            refine xr_iload_n C 3 d_Rn_fits_48 rfl rfl ?_
            refine xr_bipush C d_Rn_fits_49 (by decide) ?_
            refine xz_isub C d_Rn_fits_51 ?_
            refine xr_eqz (y := (((sSg S x - 200).toNat : Nat) : Int)) (by omega) ?_
            refine xr_iload_n C 2 d_Rn_fits_52 rfl rfl ?_
            refine xr_callV (k9 := 19) C (m_Rn_bind hw19 (h := (sSg S x - 200).toNat) (by unfold shp at sx; omega) hw22 hβ (y := (y : Int)) (by omega)) xm_Rn_119 x2_Rn_bind hw19 (by decide) rfl ⟨by show 0 + 1 ≤ d + 1; omega, by show 8 + (3 + 11) + 40 * (0) ≤ 40 * (d + 1); omega⟩ ⟨Nat.le_of_ble_eq_true rfl, Nat.le_of_ble_eq_true rfl⟩ (Nat.le_of_ble_eq_true rfl) rfl d_Rn_fits_53 (fun En n9 ad9 w9 hx9 => hx9.elim) (fun v n9 ad9 w9 hp => ?_)
            obtain ⟨rfl, rfl, z, rfl, hz, hw9⟩ := hp
            show XW _ _ _ _ _ _ 56 _ (_ :: _)
            exact xr_zret C E (by rw [hz]; exact xb_01) ⟨rfl, rfl, _, rfl, by
              rw [hz, fitI_h hhx]
              by_cases e1 : β (sSg S x - 200).toNat = -1
              · rw [if_pos e1, decide_eq_true (Or.inl e1)]; rfl
              · rw [if_neg e1]
                by_cases e2 : β (sSg S x - 200).toNat = (y : Int)
                · rw [if_pos e2, decide_eq_true (Or.inr e2)]; rfl
                · rw [if_neg e2, decide_eq_false (by omega)]; rfl, by
              by_cases e1 : β (sSg S x - 200).toNat = -1
              · rw [if_pos e1] at hw9
                refine ⟨va_up β (sSg S x - 200).toNat (y : Int), by rw [hw9, va_eq], fun h => ?_, fun b hb => ?_⟩
                · unfold va_up
                  split
                  · omega
                  · exact hβ h
                · rw [fitI_h hhx, if_pos e1] at hb
                  exact Option.some.inj hb
              · rw [if_neg e1] at hw9
                refine ⟨β, by rw [hw9]; exact hw22, hβ, fun b hb => ?_⟩
                rw [fitI_h hhx, if_neg e1] at hb
                split at hb
                · exact Option.some.inj hb
                · exact absurd hb (by simp), fun k hk => by
              rw [hw9]
              split
              · exact va_ne hk
              · rfl⟩ (Nat.le_of_ble_eq_true rfl) (Nat.le_of_ble_eq_true rfl) d_Rn_fits_56
        · skip
          refine xr_iload_n C 1 d_Rn_fits_20 rfl rfl ?_
          refine xr_iload_n C 2 d_Rn_fits_21 rfl rfl ?_
          refine xz_icmp_ne (tgt := 29) C d_Rn_fits_22 (by decide) (by omega) (by omega) (fun c22 => ?_) (fun c22 => ?_)
          · skip
            refine xr_iconst C d_Rn_fits_29 ?_
            exact xr_zret C E (by omega) (by first | exact ⟨rfl, rfl, _, rfl, by rw [(fitI_lo hT (by omega) (by omega) (Or.inl (by omega)))]; first | (rw [if_pos (by omega)]; rfl) | (rw [if_neg (by omega)]; rfl), ⟨β, hw22, hβ, fun b hb => by
              rw [(fitI_lo hT (by omega) (by omega) (Or.inl (by omega)))] at hb
              first
              | (rw [if_pos (by omega)] at hb; exact Option.some.inj hb)
              | (rw [if_neg (by omega)] at hb; cases hb)⟩, fun k _ => rfl⟩ | exact ⟨rfl, rfl, _, rfl, by rw [(fitI_lo hT (by omega) (by omega) (Or.inr (Or.inl (by omega))))]; first | (rw [if_pos (by omega)]; rfl) | (rw [if_neg (by omega)]; rfl), ⟨β, hw22, hβ, fun b hb => by
              rw [(fitI_lo hT (by omega) (by omega) (Or.inr (Or.inl (by omega))))] at hb
              first
              | (rw [if_pos (by omega)] at hb; exact Option.some.inj hb)
              | (rw [if_neg (by omega)] at hb; cases hb)⟩, fun k _ => rfl⟩ | exact ⟨rfl, rfl, _, rfl, by rw [(fitI_lo hT (by omega) (by omega) (Or.inr (Or.inr (by first | omega | (rw [Int.toNat_natCast]; omega)))))]; first | (rw [if_pos (by omega)]; rfl) | (rw [if_neg (by omega)]; rfl), ⟨β, hw22, hβ, fun b hb => by
              rw [(fitI_lo hT (by omega) (by omega) (Or.inr (Or.inr (by first | omega | (rw [Int.toNat_natCast]; omega)))))] at hb
              first
              | (rw [if_pos (by omega)] at hb; exact Option.some.inj hb)
              | (rw [if_neg (by omega)] at hb; cases hb)⟩, fun k _ => rfl⟩) (Nat.le_of_ble_eq_true rfl) (Nat.le_of_ble_eq_true rfl) d_Rn_fits_30
          · skip
            refine xr_iconst C d_Rn_fits_25 ?_
            refine xr_goto (tgt := 30) C d_Rn_fits_26 (by decide) ?_
            exact xr_zret C E (by omega) (by first | exact ⟨rfl, rfl, _, rfl, by rw [(fitI_lo hT (by omega) (by omega) (Or.inl (by omega)))]; first | (rw [if_pos (by omega)]; rfl) | (rw [if_neg (by omega)]; rfl), ⟨β, hw22, hβ, fun b hb => by
              rw [(fitI_lo hT (by omega) (by omega) (Or.inl (by omega)))] at hb
              first
              | (rw [if_pos (by omega)] at hb; exact Option.some.inj hb)
              | (rw [if_neg (by omega)] at hb; cases hb)⟩, fun k _ => rfl⟩ | exact ⟨rfl, rfl, _, rfl, by rw [(fitI_lo hT (by omega) (by omega) (Or.inr (Or.inl (by omega))))]; first | (rw [if_pos (by omega)]; rfl) | (rw [if_neg (by omega)]; rfl), ⟨β, hw22, hβ, fun b hb => by
              rw [(fitI_lo hT (by omega) (by omega) (Or.inr (Or.inl (by omega))))] at hb
              first
              | (rw [if_pos (by omega)] at hb; exact Option.some.inj hb)
              | (rw [if_neg (by omega)] at hb; cases hb)⟩, fun k _ => rfl⟩ | exact ⟨rfl, rfl, _, rfl, by rw [(fitI_lo hT (by omega) (by omega) (Or.inr (Or.inr (by first | omega | (rw [Int.toNat_natCast]; omega)))))]; first | (rw [if_pos (by omega)]; rfl) | (rw [if_neg (by omega)]; rfl), ⟨β, hw22, hβ, fun b hb => by
              rw [(fitI_lo hT (by omega) (by omega) (Or.inr (Or.inr (by first | omega | (rw [Int.toNat_natCast]; omega)))))] at hb
              first
              | (rw [if_pos (by omega)] at hb; exact Option.some.inj hb)
              | (rw [if_neg (by omega)] at hb; cases hb)⟩, fun k _ => rfl⟩) (Nat.le_of_ble_eq_true rfl) (Nat.le_of_ble_eq_true rfl) d_Rn_fits_30
set_option maxHeartbeats 4000000 in
set_option maxRecDepth 100000 in
theorem m_Rn_matches {L : Launch} {D : va_G} {cA : Nat → ClassId} {base : Nat} {ad : Nat → Nat} {w : Nat → va_E} {S : xS} (hCT : CT ad cA w S) (hT : Tb S) {sp pl le md : Int} {mo : Bool} (hw19 : w 19 = rnO ad sp pl le md mo) {β : Nat → Int} (hw22 : w 22 = xIA (cA 0) 6 β) (hβ : ∀ h, -1 ≤ β h ∧ β h < 300) {l t : Nat} (hl : l < sN S) (ht : t < sN S) (hln : sSg S l < 100) : XM L D cA base y_Rn_matches c_Rn_matches 3 (some .boolean) (xrm 32 0 0) [.ref (ad 19), .int (zI (l : Int)), .int (zI (t : Int))] 56 ad w (xRet 56 ad (fun z w' => z = xb (mtS S l t).isSome ∧ (∃ γ, w' 22 = xIA (cA 0) 6 γ ∧ (∀ h, -1 ≤ γ h ∧ γ h < 300) ∧ ∀ b, mtS S l t = some b → ∀ h, h < 6 → γ h = b h) ∧ ∀ k, k ≠ 22 → w' k = w k)) xF := by
  refine xm_of (by decide +kernel) (by simp [Value.category]) (Nat.le_of_ble_eq_true rfl) (fun G C E _ => ?_)
  obtain ⟨mk, fs, sn, wt, pl, dp, ho, hc, nw, od, hw1, hw2, hw3, hw4, hw5, hw6, hw7, hw8, hw9, hw10, hw11, hC⟩ := id hCT
  have hN := hT.1
  obtain ⟨m1, -, -, m4, -⟩ := hC.1 l hl
  obtain ⟨n1, -, -, n4, -⟩ := hC.1 t ht
  have r1 := hC.2.2.1 l
  have s1 := hC.2.2.1 t
  obtain ⟨sx, -⟩ := hT.2.1 l hl
  obtain ⟨sy, -⟩ := hT.2.1 t ht
  have hux := um_eq sx
  have huy := um_eq sy
  have hdl := (hT.2.1 l hl).2.2.2.2.2
  refine xr_aload_n C 0 d_Rn_matches_0 rfl rfl ?_
  refine xr_get (k := 19) C xg_Rn_45 hw19 (by decide) rfl d_Rn_matches_1 ?_
  refine xr_get (k := 1) C xg_Rn_107 hw1 (by decide) rfl d_Rn_matches_4 ?_
  refine xr_iload_n C 1 d_Rn_matches_7 rfl rfl ?_
  refine xj_iald (k := 2) C (l) (by omega) hw2 (by decide) (by omega) (by decide) d_Rn_matches_8 ?_
  refine xr_aload_n C 0 d_Rn_matches_9 rfl rfl ?_
  refine xr_get (k := 19) C xg_Rn_45 hw19 (by decide) rfl d_Rn_matches_10 ?_
  refine xr_get (k := 1) C xg_Rn_107 hw1 (by decide) rfl d_Rn_matches_13 ?_
  refine xr_iload_n C 2 d_Rn_matches_16 rfl rfl ?_
  refine xj_iald (k := 2) C (t) (by omega) hw2 (by decide) (by omega) (by decide) d_Rn_matches_17 ?_
  refine xz_icmp_ne (tgt := 42) C d_Rn_matches_18 (by decide) (by omega) (by omega) (fun c18 => ?_) (fun c18 => ?_)
  · skip
    have hno : mtS S l t = none := fit_ne (by omega) (by intro e; rw [← e] at n1; omega)
    refine xr_iconst C d_Rn_matches_42 ?_
    exact xr_zret C E (by omega) ⟨rfl, rfl, _, rfl, by rw [hno]; rfl, ⟨β, hw22, hβ, fun b hb => by rw [hno] at hb; cases hb⟩, fun k _ => rfl⟩ (by decide) (by decide) d_Rn_matches_43
  · skip
    refine xr_aload_n C 0 d_Rn_matches_21 rfl rfl ?_
    refine xr_get (k := 19) C xg_Rn_45 hw19 (by decide) rfl d_Rn_matches_22 ?_
    refine xr_get (k := 1) C xg_Rn_110 hw1 (by decide) rfl d_Rn_matches_25 ?_
    refine xr_iload_n C 1 d_Rn_matches_28 rfl rfl ?_
    refine xj_iald (k := 5) C (l) (by omega) hw5 (by decide) (by omega) (by decide) d_Rn_matches_29 ?_
    refine xr_aload_n C 0 d_Rn_matches_30 rfl rfl ?_
    refine xr_get (k := 19) C xg_Rn_45 hw19 (by decide) rfl d_Rn_matches_31 ?_
    refine xr_get (k := 1) C xg_Rn_110 hw1 (by decide) rfl d_Rn_matches_34 ?_
    refine xr_iload_n C 2 d_Rn_matches_37 rfl rfl ?_
    refine xj_iald (k := 5) C (t) (by omega) hw5 (by decide) (by omega) (by decide) d_Rn_matches_38 ?_
    refine xz_icmp_le (tgt := 44) C d_Rn_matches_39 (by decide) (by omega) (by omega) (fun c39 => ?_) (fun c39 => ?_)
    · skip
      refine xr_aload_n C 0 d_Rn_matches_44 rfl rfl ?_
      refine xr_get (k := 19) C xg_Rn_19 hw19 (by decide) rfl d_Rn_matches_45 ?_
      refine xr_iconst C d_Rn_matches_48 ?_
      refine xr_callS C (m_Ar_fill (n := 56) (k := 22) (N := 6) (v := -1) (by decide) (by decide) hw22) xm_Rn_74 x2_Ar_fill (by decide) (by decide) (Nat.le_of_ble_eq_true rfl) rfl d_Rn_matches_49 (fun En n9 ad9 w9 hx9 => hx9.elim) (fun v n9 ad9 w9 hp => ?_)
      obtain ⟨rfl, rfl, rfl, f, hw22', hf, hg, hfr⟩ := hp
      have hw19 := (hfr 19 (by decide)).trans hw19
      have hfr9 : ∀ h, -1 ≤ f h ∧ f h < 300 := fun h => by
        by_cases q : h < 6
        · rw [hf h q]; omega
        · rw [hg h (by omega)]; exact hβ h
      have e6 := fit_6 hT l t (fun _ => -1) f hl (fun h q => hf h q)
      have eI : fitI S (l : Int) (t : Int) f = fitS S l t f := by unfold fitI; rw [if_pos (by omega)]; rfl
      refine xr_aload_n C 0 d_Rn_matches_52 rfl rfl ?_
      refine xr_iload_n C 1 d_Rn_matches_53 rfl rfl ?_
      refine xr_iload_n C 2 d_Rn_matches_54 rfl rfl ?_
      refine xr_callV (k9 := 19) C (m_Rn_fits hT 31 (x := (l : Int)) (y := (t : Int)) (ct_fr hCT (fun k a b => hfr k (by omega))) hw19 hw22' hfr9 (by omega) (by omega) (fun _ => by rw [Int.toNat_natCast]; omega)) xm_Rn_113 x2_Rn_fits hw19 (by decide) rfl (by decide) (by decide) (Nat.le_of_ble_eq_true rfl) rfl d_Rn_matches_55 (fun En n9 ad9 w9 hx9 => hx9.elim) (fun v n9 ad9 w9 hp => ?_)
      obtain ⟨rfl, rfl, z, rfl, rfl, ⟨γ, hw22'', hγ, hγb⟩, hfr'⟩ := hp
      rw [eI] at *
      show XW _ _ _ _ _ _ 58 _ (_ :: _)
      exact xr_zret C E xb_01 ⟨rfl, rfl, _, rfl, by
        rcases e6 with ⟨a, b⟩ | ⟨a, b, c, d, e⟩
        · rw [b, show mtS S l t = none from a]
        · rw [d, show mtS S l t = some a from c]; rfl, ⟨γ, hw22'', hγ, fun b hb => by
        rcases e6 with ⟨a, _⟩ | ⟨a, c, d, e, f⟩
        · rw [show mtS S l t = none from a] at hb; cases hb
        · rw [show mtS S l t = some a from d] at hb
          cases hb
          rw [hγb c e]
          exact f⟩, fun k hk => (hfr' k hk).trans (hfr k hk)⟩ (by decide) (by decide) d_Rn_matches_58
    · skip
      have hno : mtS S l t = none := by
        cases e : mtS S l t with
        | none => rfl
        | some b =>
          have := fit_wt hT l t _ b hl ht e
          omega
      refine xr_iconst C d_Rn_matches_42 ?_
      exact xr_zret C E (by omega) ⟨rfl, rfl, _, rfl, by rw [hno]; rfl, ⟨β, hw22, hβ, fun b hb => by rw [hno] at hb; cases hb⟩, fun k _ => rfl⟩ (by decide) (by decide) d_Rn_matches_43
/-- the lowest number below n that has p, or -1 -/
def lw (n : Nat) (p : Nat → Bool) : Int := match (List.range n).find? p with
  | some r => (r : Int)
  | none => -1
theorem lw_some {n : Nat} {p : Nat → Bool} {i : Nat} (hi : i < n) (h : ∀ j, j < i → p j = false) (hp : p i = true) : lw n p = (i : Int) := by
  unfold lw
  cases e : (List.range n).find? p with
  | none =>
    have := List.find?_eq_none.mp e i (List.mem_range.mpr hi)
    rw [hp] at this
    exact absurd rfl this
  | some r =>
    have h1 := List.find?_some e
    have h2 := List.mem_range.mp (List.mem_of_find?_eq_some e)
    by_cases q : r < i
    · rw [h r q] at h1; cases h1
    · by_cases q2 : i < r
      · exfalso
        rw [List.find?_range_eq_some] at e
        have := e.2.2 i q2
        rw [hp] at this
        simp at this
      · show (r : Int) = i
        omega
theorem lw_none {n : Nat} {p : Nat → Bool} (h : ∀ j, j < n → p j = false) : lw n p = -1 := by
  unfold lw
  rw [List.find?_eq_none.mpr (fun i hi => by rw [h i (List.mem_range.mp hi)]; simp)]
theorem lw_cases (n : Nat) (p : Nat → Bool) : (lw n p = -1 ∧ ∀ j, j < n → p j = false) ∨ ∃ r, r < n ∧ lw n p = (r : Int) ∧ p r = true := by
  unfold lw
  cases e : (List.range n).find? p with
  | none => exact Or.inl ⟨rfl, fun j hj => by simpa using List.find?_eq_none.mp e j (List.mem_range.mpr hj)⟩
  | some r => exact Or.inr ⟨r, List.mem_range.mp (List.mem_of_find?_eq_some e), rfl, List.find?_some e⟩
/-- whether rule r, if it may be used, matches t -/
def hit (S : xS) (rl : Nat → Int) (us : Nat → Bool) (t r : Nat) : Bool := us r && (mtS S (rl r).toNat t).isSome
/-- the lowest rule that matches t itself, or -1 -/
def lowR (S : xS) (n : Nat) (rl : Nat → Int) (us : Nat → Bool) (t : Nat) : Int := lw n (hit S rl us t)
set_option maxHeartbeats 4000000 in
set_option maxRecDepth 100000 in
theorem m_Rn_lowestRule {L : Launch} {D : va_G} {cA : Nat → ClassId} {base : Nat} {ad : Nat → Nat} {w : Nat → va_E} {S : xS} (hCT : CT ad cA w S) (hT : Tb S) {sp pl le md : Int} {mo : Bool} (hw19 : w 19 = rnO ad sp pl le md mo) {β : Nat → Int} (hw22 : w 22 = xIA (cA 0) 6 β) (hβ : ∀ h, -1 ≤ β h ∧ β h < 300) {n : Nat} {rl al : Nat → Int} {us : Nat → Bool} (hn : n ≤ 16) (hw12 : w 12 = ruO ad (n : Int)) (hw13 : w 13 = xIA (cA 0) 16 rl) (hw20 : w 20 = xIA (cA 1) 16 al) (hal : ∀ r, r < n → al r = xb (us r)) (hrl : ∀ r, r < n → 0 ≤ rl r ∧ rl r < sN S ∧ sSg S (rl r).toNat < 100) {t : Nat} (ht : t < sN S) : XM L D cA base y_Rn_lowestRule c_Rn_lowestRule 3 (some .int) (xrm 33 0 0) [.ref (ad 19), .int (zI (t : Int))] 56 ad w (xRet 56 ad (fun z w' => z = lowR S n rl us t ∧ (∃ γ, w' 22 = xIA (cA 0) 6 γ ∧ (∀ h, -1 ≤ γ h ∧ γ h < 300)) ∧ ∀ k, k ≠ 22 → w' k = w k)) xF := by
  refine xm_of (by decide +kernel) (by simp [Value.category]) (Nat.le_of_ble_eq_true rfl) (fun G C E _ => ?_)
  have hN := hT.1
  have lp : ∀ (m i : Nat) (w1 : Nat → va_E) (β : Nat → Int) (lv : Nat → Option Value), n + 1 ≤ i + m → i ≤ n → w1 22 = xIA (cA 0) 6 β → (∀ h, -1 ≤ β h ∧ β h < 300) → (∀ k, k ≠ 22 → w1 k = w k) → (∀ j, j < i → hit S rl us t j = false) → lv 0 = some (.ref (ad 19)) → lv 1 = some (.int (zI (t : Int))) → lv 2 = some (.int (zI (i : Int))) → XW G 56 ad w1 0 0 2 lv [] := by
    intro m
    induction m with
    | zero => intro i w1 β lv h1 h2; exact absurd h1 (by omega)
    | succ m ih =>
      intro i w1 β lv h1 h2 hw22 hβ hfr hm hl0 hl1 hl2
      have hw12 := (hfr 12 (by decide)).trans hw12
      have hw13 := (hfr 13 (by decide)).trans hw13
      have hw19 := (hfr 19 (by decide)).trans hw19
      have hw20 := (hfr 20 (by decide)).trans hw20
      refine xr_iload_n C 2 d_Rn_lowestRule_2 rfl hl2 ?_
      refine xr_aload_n C 0 d_Rn_lowestRule_3 rfl hl0 ?_
      refine xr_get (k := 19) C xg_Rn_49 hw19 (by decide) rfl d_Rn_lowestRule_4 ?_
      refine xr_get (k := 12) C xg_Rn_80 hw12 (by decide) rfl d_Rn_lowestRule_7 ?_
      refine xz_icmp_ge (tgt := 47) C d_Rn_lowestRule_10 (by decide) (by omega) (by omega) (fun c10 => ?_) (fun c10 => ?_)
      · skip
        refine xr_iconst C d_Rn_lowestRule_47 ?_
        exact xr_iret C E ⟨rfl, rfl, _, rfl, (lw_none (fun j hj => hm j (by omega))).symm, ⟨β, hw22, hβ⟩, hfr⟩ (by decide) (by decide) d_Rn_lowestRule_48
      · skip
        refine xr_aload_n C 0 d_Rn_lowestRule_13 rfl hl0 ?_
        refine xr_get (k := 19) C xg_Rn_9 hw19 (by decide) rfl d_Rn_lowestRule_14 ?_
        refine xr_iload_n C 2 d_Rn_lowestRule_17 rfl hl2 ?_
        refine xj_zald (k := 20) C (i) (by omega) hw20 (by decide) (by omega) (by decide) d_Rn_lowestRule_18 ?_
        have ha9 := hal i (by omega)
        have hx9 := xb_01 (p := us i)
        refine xz_if_eq (tgt := 41) C d_Rn_lowestRule_19 (by decide) (by omega) (fun c19 => ?_) (fun c19 => ?_)
        · skip
          have hu : us i = false := by
            cases e : us i with
            | false => rfl
            | true => rw [e] at ha9; exfalso; have : xb true = 1 := rfl; omega
          have hno : hit S rl us t i = false := by unfold hit; rw [hu]; rfl
          refine xr_iinc C d_Rn_lowestRule_41 (by decide) hl2 ?_
          refine xr_goto (tgt := 2) C d_Rn_lowestRule_44 (by decide) ?_
          first
            | exact ih (i + 1) _ γ _ (by omega) (by omega) hw22' hγ (fun k hk => (hfr' k hk).trans (hfr k hk)) (fun j hj => by
                by_cases e : j = i
                · rw [e]; exact hno
                · exact hm j (by omega)) hl0 hl1 rfl
            | exact ih (i + 1) _ β _ (by omega) (by omega) hw22 hβ hfr (fun j hj => by
                by_cases e : j = i
                · rw [e]; exact hno
                · exact hm j (by omega)) hl0 hl1 rfl
        · skip
          have hu : us i = true := by
            cases e : us i with
            | true => rfl
            | false => rw [e] at ha9; exfalso; have : xb false = 0 := rfl; omega
          have hr9 := hrl i (by omega)
          refine xr_aload_n C 0 d_Rn_lowestRule_22 rfl hl0 ?_
          refine xr_aload_n C 0 d_Rn_lowestRule_23 rfl hl0 ?_
          refine xr_get (k := 19) C xg_Rn_49 hw19 (by decide) rfl d_Rn_lowestRule_24 ?_
          refine xr_get (k := 12) C xg_Rn_100 hw12 (by decide) rfl d_Rn_lowestRule_27 ?_
          refine xr_iload_n C 2 d_Rn_lowestRule_30 rfl hl2 ?_
          refine xj_iald (k := 13) C (i) (by omega) hw13 (by decide) (by omega) (by decide) d_Rn_lowestRule_31 ?_
          refine xr_eqz (y := (((rl i).toNat : Nat) : Int)) (by omega) ?_
          refine xr_iload_n C 1 d_Rn_lowestRule_32 rfl hl1 ?_
          refine xr_callV (k9 := 19) C (m_Rn_matches (w := w1) (l := (rl i).toNat) (t := t) (ct_fr hCT (fun k a b => hfr k (by omega))) hT hw19 hw22 hβ (by omega) ht hr9.2.2) xm_Rn_103 x2_Rn_matches hw19 (by decide) rfl (by decide) (by decide) (Nat.le_of_ble_eq_true rfl) rfl d_Rn_lowestRule_33 (fun En n9 ad9 w9 hx9 => hx9.elim) (fun v n9 ad9 w9 hp => ?_)
          obtain ⟨rfl, rfl, z, rfl, rfl, ⟨γ, hw22', hγ, -⟩, hfr'⟩ := hp
          show XW _ _ _ _ _ _ 36 _ (_ :: _)
          refine xb_if_eq (tgt := 41) C d_Rn_lowestRule_36 (by decide)  (fun c36 => ?_) (fun c36 => ?_)
          · skip
            have hno : hit S rl us t i = false := by unfold hit; rw [hu, c36]; rfl
            refine xr_iinc C d_Rn_lowestRule_41 (by decide) hl2 ?_
            refine xr_goto (tgt := 2) C d_Rn_lowestRule_44 (by decide) ?_
            first
              | exact ih (i + 1) _ γ _ (by omega) (by omega) hw22' hγ (fun k hk => (hfr' k hk).trans (hfr k hk)) (fun j hj => by
                  by_cases e : j = i
                  · rw [e]; exact hno
                  · exact hm j (by omega)) hl0 hl1 rfl
              | exact ih (i + 1) _ β _ (by omega) (by omega) hw22 hβ hfr (fun j hj => by
                  by_cases e : j = i
                  · rw [e]; exact hno
                  · exact hm j (by omega)) hl0 hl1 rfl
          · skip
            have hyes : hit S rl us t i = true := by unfold hit; rw [hu, c36]; rfl
            refine xr_iload_n C 2 d_Rn_lowestRule_39 rfl hl2 ?_
            exact xr_iret C E ⟨rfl, rfl, _, rfl, (lw_some (by omega) hm hyes).symm, ⟨γ, hw22', hγ⟩, fun k hk => (hfr' k hk).trans (hfr k hk)⟩ (by decide) (by decide) d_Rn_lowestRule_40
  refine xr_iconst C d_Rn_lowestRule_0 ?_
  refine xr_istore_n C 2 d_Rn_lowestRule_1 rfl (by decide) ?_
  exact lp (n + 1) 0 _ β _ (by omega) (by omega) hw22 hβ (fun k _ => rfl) (fun j hj => by omega) rfl rfl rfl
