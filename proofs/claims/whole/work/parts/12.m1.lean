set_option maxHeartbeats 4000000 in
set_option maxRecDepth 100000 in
theorem m_Tr_isNode {L : Launch} {D : va_G} {cA : Nat → ClassId} {base : Nat} {ad : Nat → Nat} {w : Nat → va_E} {t : Int} {mk : Nat → Int} (hw1 : w 1 = trO ad t) (hw2 : w 2 = xIA (cA 0) 300 mk) (hmk : ∀ j, -200 ≤ mk j ∧ mk j ≤ 200) {x : Int} (hx : -1 ≤ x ∧ x < 300) : XM L D cA base y_Tr_isNode c_Tr_isNode 2 (some .boolean) (xrm 0 0 0) [.ref (ad 1), .int (zI x)] 56 ad w (xPure 56 ad w (.int (zI (xb (decide (0 ≤ x ∧ 0 ≤ mk x.toNat ∧ mk x.toNat < 12)))))) xF := by
  refine xm_of (by decide +kernel) (by simp [Value.category]) (Nat.le_of_ble_eq_true rfl) (fun G C E _ => ?_)
  have := hmk x.toNat
  refine xr_iload_n C 1 d_Tr_isNode_0 rfl rfl ?_
  refine xz_if_lt (tgt := 28) C d_Tr_isNode_1 (by decide) (by omega) (fun c1 => ?_) (fun c1 => ?_)
  · skip
    refine xr_iconst C d_Tr_isNode_28 ?_
    exact xr_zret C E (by omega) ⟨rfl, rfl, rfl, by first | exact xb_v1 (by omega) | exact xb_v0 (by omega)⟩ (by decide) (by decide) d_Tr_isNode_29
  · skip
    refine xr_aload_n C 0 d_Tr_isNode_4 rfl rfl ?_
    refine xr_get (k := 1) C xg_Tr_9 hw1 (by decide) rfl d_Tr_isNode_5 ?_
    refine xr_iload_n C 1 d_Tr_isNode_8 rfl rfl ?_
    refine xz_iald (k := 2) C hw2 (by decide) (by omega) (by decide) d_Tr_isNode_9 ?_
    refine xz_if_lt (tgt := 28) C d_Tr_isNode_10 (by decide) (by omega) (fun c10 => ?_) (fun c10 => ?_)
    · skip
      refine xr_iconst C d_Tr_isNode_28 ?_
      exact xr_zret C E (by omega) ⟨rfl, rfl, rfl, by first | exact xb_v1 (by omega) | exact xb_v0 (by omega)⟩ (by decide) (by decide) d_Tr_isNode_29
    · skip
      refine xr_aload_n C 0 d_Tr_isNode_13 rfl rfl ?_
      refine xr_get (k := 1) C xg_Tr_9 hw1 (by decide) rfl d_Tr_isNode_14 ?_
      refine xr_iload_n C 1 d_Tr_isNode_17 rfl rfl ?_
      refine xz_iald (k := 2) C hw2 (by decide) (by omega) (by decide) d_Tr_isNode_18 ?_
      refine xr_bipush C d_Tr_isNode_19 (by decide) ?_
      refine xz_icmp_ge (tgt := 28) C d_Tr_isNode_21 (by decide) (by omega) (by omega) (fun c21 => ?_) (fun c21 => ?_)
      · skip
        refine xr_iconst C d_Tr_isNode_28 ?_
        exact xr_zret C E (by omega) ⟨rfl, rfl, rfl, by first | exact xb_v1 (by omega) | exact xb_v0 (by omega)⟩ (by decide) (by decide) d_Tr_isNode_29
      · skip
        refine xr_iconst C d_Tr_isNode_24 ?_
        refine xr_goto (tgt := 29) C d_Tr_isNode_25 (by decide) ?_
        exact xr_zret C E (by omega) ⟨rfl, rfl, rfl, by first | exact xb_v1 (by omega) | exact xb_v0 (by omega)⟩ (by decide) (by decide) d_Tr_isNode_29
set_option maxHeartbeats 4000000 in
set_option maxRecDepth 100000 in
theorem m_Tr_isLeaf {L : Launch} {D : va_G} {cA : Nat → ClassId} {base : Nat} {ad : Nat → Nat} {w : Nat → va_E} {t : Int} {mk : Nat → Int} (hw1 : w 1 = trO ad t) (hw2 : w 2 = xIA (cA 0) 300 mk) (hmk : ∀ j, -200 ≤ mk j ∧ mk j ≤ 200) {x : Int} (hx : -1 ≤ x ∧ x < 300) : XM L D cA base y_Tr_isLeaf c_Tr_isLeaf 2 (some .boolean) (xrm 0 0 0) [.ref (ad 1), .int (zI x)] 56 ad w (xPure 56 ad w (.int (zI (xb (decide (0 ≤ x ∧ mk x.toNat < 0)))))) xF := by
  refine xm_of (by decide +kernel) (by simp [Value.category]) (Nat.le_of_ble_eq_true rfl) (fun G C E _ => ?_)
  have := hmk x.toNat
  refine xr_iload_n C 1 d_Tr_isLeaf_0 rfl rfl ?_
  refine xz_if_lt (tgt := 17) C d_Tr_isLeaf_1 (by decide) (by omega) (fun c1 => ?_) (fun c1 => ?_)
  · skip
    refine xr_iconst C d_Tr_isLeaf_17 ?_
    exact xr_zret C E (by omega) ⟨rfl, rfl, rfl, by first | exact xb_v1 (by omega) | exact xb_v0 (by omega)⟩ (by decide) (by decide) d_Tr_isLeaf_18
  · skip
    refine xr_aload_n C 0 d_Tr_isLeaf_4 rfl rfl ?_
    refine xr_get (k := 1) C xg_Tr_9 hw1 (by decide) rfl d_Tr_isLeaf_5 ?_
    refine xr_iload_n C 1 d_Tr_isLeaf_8 rfl rfl ?_
    refine xz_iald (k := 2) C hw2 (by decide) (by omega) (by decide) d_Tr_isLeaf_9 ?_
    refine xz_if_ge (tgt := 17) C d_Tr_isLeaf_10 (by decide) (by omega) (fun c10 => ?_) (fun c10 => ?_)
    · skip
      refine xr_iconst C d_Tr_isLeaf_17 ?_
      exact xr_zret C E (by omega) ⟨rfl, rfl, rfl, by first | exact xb_v1 (by omega) | exact xb_v0 (by omega)⟩ (by decide) (by decide) d_Tr_isLeaf_18
    · skip
      refine xr_iconst C d_Tr_isLeaf_13 ?_
      refine xr_goto (tgt := 18) C d_Tr_isLeaf_14 (by decide) ?_
      exact xr_zret C E (by omega) ⟨rfl, rfl, rfl, by first | exact xb_v1 (by omega) | exact xb_v0 (by omega)⟩ (by decide) (by decide) d_Tr_isLeaf_18
