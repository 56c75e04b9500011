theorem zI_and511 (z : Int) : zI z &&& zI 511 = zI (z % 512) := by
  rw [pk_and (zI z) (m := zI 511) 9 (by decide), zI_nI]
  congr 1
  have e : (zI z).toBitVec.toNat = (z % 4294967296).toNat := by
    show (BitVec.ofInt 32 z).toNat = _
    rw [BitVec.toNat_ofInt]
    rfl
  rw [e]
  omega
set_option maxHeartbeats 4000000 in
set_option maxRecDepth 100000 in
theorem m_Tr_isNode {L : Launch} {D : va_G} {cA : Nat → ClassId} {base : Nat} {ad : Nat → Nat} {w : Nat → va_E} {t : Int} {mk : Nat → Int} (hw1 : w 1 = trO ad t) (hw2 : w 2 = xIA (cA 0) 300 mk) (hmk : ∀ j, -200 ≤ mk j ∧ mk j ≤ 200) {x : Int} (hx : -1 ≤ x ∧ x < 300) : XM L D cA base y_Tr_isNode c_Tr_isNode 2 (some .boolean) (xrm 0 0 0) [.ref (ad 1), .int (zI x)] 56 ad w (xPure 56 ad w (.int (zI (xb (decide (0 ≤ x ∧ 0 ≤ mk x.toNat ∧ mk x.toNat < 12)))))) xF := by
  refine xm_of (by decide +kernel) (by simp [Value.category]) (Nat.le_of_ble_eq_true rfl) (fun G C E _ => ?_)
  have := hmk x.toNat
  refine xr_iload_n C 1 d_Tr_isNode_0 rfl rfl ?_
  refine xz_if_lt (tgt := 28) C d_Tr_isNode_1 (by decide) (by omega) (fun c1 => ?_) (fun c1 => ?_)
  · skip
    refine xr_iconst C d_Tr_isNode_28 ?_
    exact xr_zret C E (by omega) ⟨rfl, rfl, rfl, by first | exact xb_v1 (by omega) | exact xb_v0 (by omega)⟩ (by decide) (by decide) d_Tr_isNode_29
  · skip
    refine xr_aload_n C 0 d_Tr_isNode_4 rfl rfl ?_
    refine xr_get (k := 1) C xg_Tr_9 hw1 (by decide) rfl d_Tr_isNode_5 ?_
    refine xr_iload_n C 1 d_Tr_isNode_8 rfl rfl ?_
    refine xz_iald (k := 2) C hw2 (by decide) (by omega) (by decide) d_Tr_isNode_9 ?_
    refine xz_if_lt (tgt := 28) C d_Tr_isNode_10 (by decide) (by omega) (fun c10 => ?_) (fun c10 => ?_)
    · skip
      refine xr_iconst C d_Tr_isNode_28 ?_
      exact xr_zret C E (by omega) ⟨rfl, rfl, rfl, by first | exact xb_v1 (by omega) | exact xb_v0 (by omega)⟩ (by decide) (by decide) d_Tr_isNode_29
    · skip
      refine xr_aload_n C 0 d_Tr_isNode_13 rfl rfl ?_
      refine xr_get (k := 1) C xg_Tr_9 hw1 (by decide) rfl d_Tr_isNode_14 ?_
      refine xr_iload_n C 1 d_Tr_isNode_17 rfl rfl ?_
      refine xz_iald (k := 2) C hw2 (by decide) (by omega) (by decide) d_Tr_isNode_18 ?_
      refine xr_bipush C d_Tr_isNode_19 (by decide) ?_
      refine xz_icmp_ge (tgt := 28) C d_Tr_isNode_21 (by decide) (by omega) (by omega) (fun c21 => ?_) (fun c21 => ?_)
      · skip
        refine xr_iconst C d_Tr_isNode_28 ?_
        exact xr_zret C E (by omega) ⟨rfl, rfl, rfl, by first | exact xb_v1 (by omega) | exact xb_v0 (by omega)⟩ (by decide) (by decide) d_Tr_isNode_29
      · skip
        refine xr_iconst C d_Tr_isNode_24 ?_
        refine xr_goto (tgt := 29) C d_Tr_isNode_25 (by decide) ?_
        exact xr_zret C E (by omega) ⟨rfl, rfl, rfl, by first | exact xb_v1 (by omega) | exact xb_v0 (by omega)⟩ (by decide) (by decide) d_Tr_isNode_29
set_option maxHeartbeats 4000000 in
set_option maxRecDepth 100000 in
theorem m_Tr_isLeaf {L : Launch} {D : va_G} {cA : Nat → ClassId} {base : Nat} {ad : Nat → Nat} {w : Nat → va_E} {t : Int} {mk : Nat → Int} (hw1 : w 1 = trO ad t) (hw2 : w 2 = xIA (cA 0) 300 mk) (hmk : ∀ j, -200 ≤ mk j ∧ mk j ≤ 200) {x : Int} (hx : -1 ≤ x ∧ x < 300) : XM L D cA base y_Tr_isLeaf c_Tr_isLeaf 2 (some .boolean) (xrm 0 0 0) [.ref (ad 1), .int (zI x)] 56 ad w (xPure 56 ad w (.int (zI (xb (decide (0 ≤ x ∧ mk x.toNat < 0)))))) xF := by
  refine xm_of (by decide +kernel) (by simp [Value.category]) (Nat.le_of_ble_eq_true rfl) (fun G C E _ => ?_)
  have := hmk x.toNat
  refine xr_iload_n C 1 d_Tr_isLeaf_0 rfl rfl ?_
  refine xz_if_lt (tgt := 17) C d_Tr_isLeaf_1 (by decide) (by omega) (fun c1 => ?_) (fun c1 => ?_)
  · skip
    refine xr_iconst C d_Tr_isLeaf_17 ?_
    exact xr_zret C E (by omega) ⟨rfl, rfl, rfl, by first | exact xb_v1 (by omega) | exact xb_v0 (by omega)⟩ (by decide) (by decide) d_Tr_isLeaf_18
  · skip
    refine xr_aload_n C 0 d_Tr_isLeaf_4 rfl rfl ?_
    refine xr_get (k := 1) C xg_Tr_9 hw1 (by decide) rfl d_Tr_isLeaf_5 ?_
    refine xr_iload_n C 1 d_Tr_isLeaf_8 rfl rfl ?_
    refine xz_iald (k := 2) C hw2 (by decide) (by omega) (by decide) d_Tr_isLeaf_9 ?_
    refine xz_if_ge (tgt := 17) C d_Tr_isLeaf_10 (by decide) (by omega) (fun c10 => ?_) (fun c10 => ?_)
    · skip
      refine xr_iconst C d_Tr_isLeaf_17 ?_
      exact xr_zret C E (by omega) ⟨rfl, rfl, rfl, by first | exact xb_v1 (by omega) | exact xb_v0 (by omega)⟩ (by decide) (by decide) d_Tr_isLeaf_18
    · skip
      refine xr_iconst C d_Tr_isLeaf_13 ?_
      refine xr_goto (tgt := 18) C d_Tr_isLeaf_14 (by decide) ?_
      exact xr_zret C E (by omega) ⟨rfl, rfl, rfl, by first | exact xb_v1 (by omega) | exact xb_v0 (by omega)⟩ (by decide) (by decide) d_Tr_isLeaf_18
set_option maxHeartbeats 4000000 in
set_option maxRecDepth 100000 in
theorem m_Tr_slotOf {L : Launch} {D : va_G} {cA : Nat → ClassId} {base : Nat} {ad : Nat → Nat} {w : Nat → va_E} {x y z : Int} : XM L D cA base y_Tr_slotOf c_Tr_slotOf 4 (some .int) (xrm 0 0 0) [.ref (ad 1), .int (zI x), .int (zI y), .int (zI z)] 56 ad w (xPure 56 ad w (.int (zI (((x * 31 + y) * 31 + z) % 512)))) xF := by
  refine xm_of (by decide +kernel) (by simp [Value.category]) (Nat.le_of_ble_eq_true rfl) (fun G C E _ => ?_)
  refine xr_iload_n C 1 d_Tr_slotOf_0 rfl rfl ?_
  refine xr_bipush C d_Tr_slotOf_1 (by decide) ?_
  refine xz_imul C d_Tr_slotOf_3 ?_
  refine xr_iload_n C 2 d_Tr_slotOf_4 rfl rfl ?_
  refine xz_iadd C d_Tr_slotOf_5 ?_
  refine xr_bipush C d_Tr_slotOf_6 (by decide) ?_
  refine xz_imul C d_Tr_slotOf_8 ?_
  refine xr_iload_n C 3 d_Tr_slotOf_9 rfl rfl ?_
  refine xz_iadd C d_Tr_slotOf_10 ?_
  refine xr_sipush C d_Tr_slotOf_11 (by decide) ?_
  refine xr_iand C d_Tr_slotOf_14 ?_
  rw [zI_and511]
  exact xr_iret C E ⟨rfl, rfl, rfl, rfl⟩ (by decide) (by decide) d_Tr_slotOf_15
set_option maxHeartbeats 4000000 in
set_option maxRecDepth 100000 in
theorem m_Tr_valueOf {L : Launch} {D : va_G} {cA : Nat → ClassId} {base : Nat} {ad : Nat → Nat} {w : Nat → va_E} {k N : Nat} {f : Nat → Int} (hk : k < 56) (hN : N < 2147483648) (hwk : w k = xIA (cA 0) N f) {x y : Int} (hx : -1 ≤ x ∧ x < N) : XM L D cA base y_Tr_valueOf c_Tr_valueOf 4 (some .int) (xrm 0 0 0) [.ref (ad 1), .ref (ad k), .int (zI x), .int (zI y)] 56 ad w (xPure 56 ad w (.int (zI (if x < 0 then y else f x.toNat)))) xF := by
  refine xm_of (by decide +kernel) (by simp [Value.category]) (Nat.le_of_ble_eq_true rfl) (fun G C E _ => ?_)
  refine xr_iload_n C 2 d_Tr_valueOf_0 rfl rfl ?_
  refine xz_if_ge (tgt := 8) C d_Tr_valueOf_1 (by decide) (by omega) (fun c1 => ?_) (fun c1 => ?_)
  · skip
    refine xr_aload_n C 1 d_Tr_valueOf_8 rfl rfl ?_
    refine xr_iload_n C 2 d_Tr_valueOf_9 rfl rfl ?_
    refine xz_iald (k := k) C hwk hk (by omega) hN d_Tr_valueOf_10 ?_
    exact xr_iret C E ⟨rfl, rfl, rfl, xv_eq (by split <;> omega)⟩ (by decide) (by decide) d_Tr_valueOf_11
  · skip
    refine xr_iload_n C 3 d_Tr_valueOf_4 rfl rfl ?_
    refine xr_goto (tgt := 11) C d_Tr_valueOf_5 (by decide) ?_
    exact xr_iret C E ⟨rfl, rfl, rfl, xv_eq (by split <;> omega)⟩ (by decide) (by decide) d_Tr_valueOf_11
set_option maxHeartbeats 4000000 in
set_option maxRecDepth 100000 in
theorem m_Tr_ownWeight {L : Launch} {D : va_G} {cA : Nat → ClassId} {base : Nat} {ad : Nat → Nat} {w : Nat → va_E} {x : Int} (hx : -200 ≤ x ∧ x ≤ 200) : XM L D cA base y_Tr_ownWeight c_Tr_ownWeight 2 (some .int) (xrm 0 0 0) [.ref (ad 1), .int (zI x)] 56 ad w (xPure 56 ad w (.int (zI (if 0 ≤ x ∧ x < 12 ∧ x % 3 = 2 then 2 else 1)))) xF := by
  refine xm_of (by decide +kernel) (by simp [Value.category]) (Nat.le_of_ble_eq_true rfl) (fun G C E _ => ?_)
  refine xr_iload_n C 1 d_Tr_ownWeight_0 rfl rfl ?_
  refine xz_if_lt (tgt := 21) C d_Tr_ownWeight_1 (by decide) (by omega) (fun c1 => ?_) (fun c1 => ?_)
  · skip
    refine xr_iconst C d_Tr_ownWeight_21 ?_
    exact xr_iret C E ⟨rfl, rfl, rfl, xv_eq (by split <;> omega)⟩ (by decide) (by decide) d_Tr_ownWeight_22
  · skip
    refine xr_iload_n C 1 d_Tr_ownWeight_4 rfl rfl ?_
    refine xr_bipush C d_Tr_ownWeight_5 (by decide) ?_
    refine xz_icmp_ge (tgt := 21) C d_Tr_ownWeight_7 (by decide) (by omega) (by omega) (fun c7 => ?_) (fun c7 => ?_)
    · skip
      refine xr_iconst C d_Tr_ownWeight_21 ?_
      exact xr_iret C E ⟨rfl, rfl, rfl, xv_eq (by split <;> omega)⟩ (by decide) (by decide) d_Tr_ownWeight_22
    · skip
      refine xr_iload_n C 1 d_Tr_ownWeight_10 rfl rfl ?_
      refine xr_iconst C d_Tr_ownWeight_11 ?_
      have ht : x.tmod 3 = x % 3 := Int.tmod_eq_emod_of_nonneg (by omega)
      refine xz_irem C d_Tr_ownWeight_12 (by omega) (by omega) ?_
      refine xr_iconst C d_Tr_ownWeight_13 ?_
      refine xz_icmp_ne (tgt := 21) C d_Tr_ownWeight_14 (by decide) (by omega) (by omega) (fun c14 => ?_) (fun c14 => ?_)
      · skip
        refine xr_iconst C d_Tr_ownWeight_21 ?_
        exact xr_iret C E ⟨rfl, rfl, rfl, xv_eq (by split <;> omega)⟩ (by decide) (by decide) d_Tr_ownWeight_22
      · skip
        refine xr_iconst C d_Tr_ownWeight_17 ?_
        refine xr_goto (tgt := 22) C d_Tr_ownWeight_18 (by decide) ?_
        exact xr_iret C E ⟨rfl, rfl, rfl, xv_eq (by split <;> omega)⟩ (by decide) (by decide) d_Tr_ownWeight_22
set_option maxHeartbeats 4000000 in
set_option maxRecDepth 100000 in
theorem m_Tr_holeCount {L : Launch} {D : va_G} {cA : Nat → ClassId} {base : Nat} {ad : Nat → Nat} {w : Nat → va_E} {t : Int} {hc : Nat → Int} (hw1 : w 1 = trO ad t) (hw9 : w 9 = xIA (cA 0) 1800 hc) {x h : Int} (hx : -1 ≤ x ∧ x < 300) (hh : 0 ≤ h ∧ h < 6) : XM L D cA base y_Tr_holeCount c_Tr_holeCount 3 (some .int) (xrm 0 0 0) [.ref (ad 1), .int (zI x), .int (zI h)] 56 ad w (xPure 56 ad w (.int (zI (if x < 0 then 0 else hc (x * 6 + h).toNat)))) xF := by
  refine xm_of (by decide +kernel) (by simp [Value.category]) (Nat.le_of_ble_eq_true rfl) (fun G C E _ => ?_)
  refine xr_iload_n C 1 d_Tr_holeCount_0 rfl rfl ?_
  refine xz_if_ge (tgt := 8) C d_Tr_holeCount_1 (by decide) (by omega) (fun c1 => ?_) (fun c1 => ?_)
  · skip
    refine xr_aload_n C 0 d_Tr_holeCount_8 rfl rfl ?_
    refine xr_get (k := 1) C xg_Tr_33 hw1 (by decide) rfl d_Tr_holeCount_9 ?_
    refine xr_iload_n C 1 d_Tr_holeCount_12 rfl rfl ?_
    refine xr_bipush C d_Tr_holeCount_13 (by decide) ?_
    refine xz_imul C d_Tr_holeCount_15 ?_
    refine xr_iload_n C 2 d_Tr_holeCount_16 rfl rfl ?_
    refine xz_iadd C d_Tr_holeCount_17 ?_
    refine xz_iald (k := 9) C hw9 (by decide) (by omega) (by decide) d_Tr_holeCount_18 ?_
    exact xr_iret C E ⟨rfl, rfl, rfl, xv_eq (by split <;> omega)⟩ (by decide) (by decide) d_Tr_holeCount_19
  · skip
    refine xr_iconst C d_Tr_holeCount_4 ?_
    refine xr_goto (tgt := 19) C d_Tr_holeCount_5 (by decide) ?_
    exact xr_iret C E ⟨rfl, rfl, rfl, xv_eq (by split <;> omega)⟩ (by decide) (by decide) d_Tr_holeCount_19
set_option maxHeartbeats 4000000 in
set_option maxRecDepth 100000 in
theorem m_Ro_cell {L : Launch} {D : va_G} {cA : Nat → ClassId} {base : Nat} {ad : Nat → Nat} {w : Nat → va_E} {k : Nat} {N : Nat} {sz : Int} {f : Nat → Int} (hk : k + 1 < 56) (hwk : w k = roO ad k sz) (hwk1 : w (k + 1) = xIA (cA 0) 800 f) {x y : Int} (hx : 0 ≤ x ∧ x < 200) (hy : 0 ≤ y ∧ y < 4) : XM L D cA base y_Ro_cell c_Ro_cell 3 (some .int) (xrm 0 0 0) [.ref (ad k), .int (zI x), .int (zI y)] 56 ad w (xPure 56 ad w (.int (zI (f (x * 4 + y).toNat)))) xF := by
  refine xm_of (by decide +kernel) (by simp [Value.category]) (Nat.le_of_ble_eq_true rfl) (fun G C E _ => ?_)
  refine xr_aload_n C 0 d_Ro_cell_0 rfl rfl ?_
  refine xr_get (k := k) C xg_Ro_9 hwk (by omega) rfl d_Ro_cell_1 ?_
  refine xr_iload_n C 1 d_Ro_cell_4 rfl rfl ?_
  refine xr_iconst C d_Ro_cell_5 ?_
  refine xz_imul C d_Ro_cell_6 ?_
  refine xr_iload_n C 2 d_Ro_cell_7 rfl rfl ?_
  refine xz_iadd C d_Ro_cell_8 ?_
  refine xz_iald (k := (k + 1)) C hwk1 hk (by omega) (by decide) d_Ro_cell_9 ?_
  exact xr_iret C E ⟨rfl, rfl, rfl, rfl⟩ (by decide) (by decide) d_Ro_cell_10
set_option maxHeartbeats 4000000 in
set_option maxRecDepth 100000 in
theorem m_Ru_mayBeUsed {L : Launch} {D : va_G} {cA : Nat → ClassId} {base : Nat} {ad : Nat → Nat} {w : Nat → va_E} {r : Int} {co ch an : Nat → Int} (hw12 : w 12 = ruO ad r) (hw15 : w 15 = xIA (cA 0) 16 co) (hw17 : w 17 = xIA (cA 1) 16 ch) (hw18 : w 18 = xIA (cA 0) 10 an) {x : Int} (hx : 0 ≤ x ∧ x < 16) (hco : -1 ≤ co x.toNat ∧ co x.toNat < 10) (hch : ch x.toNat = 0 ∨ ch x.toNat = 1) (han : ∀ j, 0 ≤ an j ∧ an j ≤ 2) : XM L D cA base y_Ru_mayBeUsed c_Ru_mayBeUsed 2 (some .boolean) (xrm 0 0 0) [.ref (ad 12), .int (zI x)] 56 ad w (xPure 56 ad w (.int (zI (xb (decide (ch x.toNat = 1 ∧ (co x.toNat = -1 ∨ an (co x.toNat).toNat = 1))))))) xF := by
  refine xm_of (by decide +kernel) (by simp [Value.category]) (Nat.le_of_ble_eq_true rfl) (fun G C E _ => ?_)
  have := han (co x.toNat).toNat
  refine xr_aload_n C 0 d_Ru_mayBeUsed_0 rfl rfl ?_
  refine xr_get (k := 12) C xg_Ru_25 hw12 (by decide) rfl d_Ru_mayBeUsed_1 ?_
  refine xr_iload_n C 1 d_Ru_mayBeUsed_4 rfl rfl ?_
  refine xz_zald (k := 17) C hw17 (by decide) (by omega) (by decide) d_Ru_mayBeUsed_5 ?_
  refine xz_if_eq (tgt := 38) C d_Ru_mayBeUsed_6 (by decide) (by omega) (fun c6 => ?_) (fun c6 => ?_)
  · skip
    refine xr_iconst C d_Ru_mayBeUsed_38 ?_
    exact xr_zret C E (by omega) ⟨rfl, rfl, rfl, by first | exact xb_v1 (by omega) | exact xb_v0 (by omega)⟩ (by decide) (by decide) d_Ru_mayBeUsed_39
  · skip
    refine xr_aload_n C 0 d_Ru_mayBeUsed_9 rfl rfl ?_
    refine xr_get (k := 12) C xg_Ru_18 hw12 (by decide) rfl d_Ru_mayBeUsed_10 ?_
    refine xr_iload_n C 1 d_Ru_mayBeUsed_13 rfl rfl ?_
    refine xz_iald (k := 15) C hw15 (by decide) (by omega) (by decide) d_Ru_mayBeUsed_14 ?_
    refine xr_iconst C d_Ru_mayBeUsed_15 ?_
    refine xz_icmp_eq (tgt := 34) C d_Ru_mayBeUsed_16 (by decide) (by omega) (by omega) (fun c16 => ?_) (fun c16 => ?_)
    · skip
      refine xr_iconst C d_Ru_mayBeUsed_34 ?_
      refine xr_goto (tgt := 39) C d_Ru_mayBeUsed_35 (by decide) ?_
      exact xr_zret C E (by omega) ⟨rfl, rfl, rfl, by first | exact xb_v1 (by omega) | exact xb_v0 (by omega)⟩ (by decide) (by decide) d_Ru_mayBeUsed_39
    · skip
      refine xr_aload_n C 0 d_Ru_mayBeUsed_19 rfl rfl ?_
      refine xr_get (k := 12) C xg_Ru_28 hw12 (by decide) rfl d_Ru_mayBeUsed_20 ?_
      refine xr_aload_n C 0 d_Ru_mayBeUsed_23 rfl rfl ?_
      refine xr_get (k := 12) C xg_Ru_18 hw12 (by decide) rfl d_Ru_mayBeUsed_24 ?_
      refine xr_iload_n C 1 d_Ru_mayBeUsed_27 rfl rfl ?_
      refine xz_iald (k := 15) C hw15 (by decide) (by omega) (by decide) d_Ru_mayBeUsed_28 ?_
      refine xz_iald (k := 18) C hw18 (by decide) (by omega) (by decide) d_Ru_mayBeUsed_29 ?_
      refine xr_iconst C d_Ru_mayBeUsed_30 ?_
      refine xz_icmp_ne (tgt := 38) C d_Ru_mayBeUsed_31 (by decide) (by omega) (by omega) (fun c31 => ?_) (fun c31 => ?_)
      · skip
        refine xr_iconst C d_Ru_mayBeUsed_38 ?_
        exact xr_zret C E (by omega) ⟨rfl, rfl, rfl, by first | exact xb_v1 (by omega) | exact xb_v0 (by omega)⟩ (by decide) (by decide) d_Ru_mayBeUsed_39
      · skip
        refine xr_iconst C d_Ru_mayBeUsed_34 ?_
        refine xr_goto (tgt := 39) C d_Ru_mayBeUsed_35 (by decide) ?_
        exact xr_zret C E (by omega) ⟨rfl, rfl, rfl, by first | exact xb_v1 (by omega) | exact xb_v0 (by omega)⟩ (by decide) (by decide) d_Ru_mayBeUsed_39
/-- each hole stands in x at least as often as in y, by a table of counts -/
def hOK (hc : Nat → Int) (x y : Nat) : Bool := (List.range 6).all (fun h => decide (hc (y * 6 + h) ≤ hc (x * 6 + h)))
theorem hOK_t {hc : Nat → Int} {x y : Nat} (h : ∀ i, i < 6 → hc (y * 6 + i) ≤ hc (x * 6 + i)) : hOK hc x y = true := by
  simp [hOK, List.all_eq_true]
  exact h
theorem hOK_f {hc : Nat → Int} {x y i : Nat} (hi : i < 6) (h : hc (x * 6 + i) < hc (y * 6 + i)) : hOK hc x y = false := by
  cases e : hOK hc x y with
  | false => rfl
  | true =>
    simp [hOK, List.all_eq_true] at e
    have := e i hi
    omega
theorem hOK_of {hc : Nat → Int} {x y : Nat} (h : hOK hc x y = true) : ∀ i, i < 6 → hc (y * 6 + i) ≤ hc (x * 6 + i) := by
  simp [hOK, List.all_eq_true] at h
  exact h
set_option maxHeartbeats 4000000 in
set_option maxRecDepth 100000 in
theorem m_Tr_hasHolesOf {L : Launch} {D : va_G} {cA : Nat → ClassId} {base : Nat} {ad : Nat → Nat} {w : Nat → va_E} {t : Int} {hc : Nat → Int} (hw1 : w 1 = trO ad t) (hw9 : w 9 = xIA (cA 0) 1800 hc) (hhc : ∀ j, 0 ≤ hc j ∧ hc j ≤ 1000) {x y : Nat} (hx : x < 300) (hy : y < 300) : XM L D cA base y_Tr_hasHolesOf c_Tr_hasHolesOf 4 (some .boolean) (xrm 1 0 0) [.ref (ad 1), .int (zI (x : Int)), .int (zI (y : Int))] 56 ad w (xPure 56 ad w (.int (zI (xb (hOK hc x y))))) xF := by
  refine xm_of (by decide +kernel) (by simp [Value.category]) (Nat.le_of_ble_eq_true rfl) (fun G C E _ => ?_)
  have lp : ∀ (k i : Nat) (lv : Nat → Option Value), 7 ≤ i + k → i ≤ 6 → lv 0 = some (.ref (ad 1)) → lv 1 = some (.int (zI (x : Int))) → lv 2 = some (.int (zI (y : Int))) → lv 3 = some (.int (zI (i : Int))) → (∀ h, h < i → hc (y * 6 + h) ≤ hc (x * 6 + h)) → XW G 56 ad w 0 0 2 lv [] := by
    intro k
    induction k with
    | zero => intro i lv h1 h2; exact absurd h1 (by omega)
    | succ k ih =>
      intro i lv h1 h2 hl0 hl1 hl2 hl3 hh
      refine xr_iload_n C 3 d_Tr_hasHolesOf_2 rfl hl3 ?_
      refine xr_bipush C d_Tr_hasHolesOf_3 (by decide) ?_
      refine xz_icmp_ge (tgt := 31) C d_Tr_hasHolesOf_5 (by decide) (by omega) (by omega) (fun c5 => ?_) (fun c5 => ?_)
      · skip
        refine xr_iconst C d_Tr_hasHolesOf_31 ?_
        exact xr_zret C E (by omega) ⟨rfl, rfl, rfl, by rw [hOK_t (fun h h1 => hh h (by omega))]; rfl⟩ (by decide) (by decide) d_Tr_hasHolesOf_32
      · skip
        refine xr_aload_n C 0 d_Tr_hasHolesOf_8 rfl hl0 ?_
        refine xr_iload_n C 1 d_Tr_hasHolesOf_9 rfl hl1 ?_
        refine xr_iload_n C 3 d_Tr_hasHolesOf_10 rfl hl3 ?_
        refine xr_callV (k9 := 1) C (m_Tr_holeCount hw1 hw9 (x := (x : Int)) (h := (i : Int)) (by omega) (by omega)) xm_Tr_77 x2_Tr_holeCount hw1 (by decide) rfl (by decide) (by decide) (Nat.le_of_ble_eq_true rfl) rfl d_Tr_hasHolesOf_11 (fun En n9 ad9 w9 hx9 => hx9.elim) (fun v n9 ad9 w9 hp => ?_)
        obtain ⟨rfl, rfl, rfl, rfl⟩ := hp
        show XW _ _ _ _ _ _ 14 _ (_ :: _)
        refine xr_aload_n C 0 d_Tr_hasHolesOf_14 rfl hl0 ?_
        refine xr_iload_n C 2 d_Tr_hasHolesOf_15 rfl hl2 ?_
        refine xr_iload_n C 3 d_Tr_hasHolesOf_16 rfl hl3 ?_
        refine xr_callV (k9 := 1) C (m_Tr_holeCount hw1 hw9 (x := (y : Int)) (h := (i : Int)) (by omega) (by omega)) xm_Tr_77 x2_Tr_holeCount hw1 (by decide) rfl (by decide) (by decide) (Nat.le_of_ble_eq_true rfl) rfl d_Tr_hasHolesOf_17 (fun En n9 ad9 w9 hx9 => hx9.elim) (fun v n9 ad9 w9 hp => ?_)
        obtain ⟨rfl, rfl, rfl, rfl⟩ := hp
        show XW _ _ _ _ _ _ 20 _ (_ :: _)
        have hcx := hhc (x * 6 + i)
        have hcy := hhc (y * 6 + i)
        rw [if_neg (by omega), if_neg (by omega), show ((x : Int) * 6 + (i : Int)).toNat = x * 6 + i by omega, show ((y : Int) * 6 + (i : Int)).toNat = y * 6 + i by omega]
        refine xz_icmp_ge (tgt := 25) C d_Tr_hasHolesOf_20 (by decide) (by omega) (by omega) (fun c20 => ?_) (fun c20 => ?_)
        · skip
          refine xr_iinc C d_Tr_hasHolesOf_25 (by decide) hl3 ?_
          refine xr_goto (tgt := 2) C d_Tr_hasHolesOf_28 (by decide) ?_
          exact ih (i + 1) _ (by omega) (by omega) hl0 hl1 hl2 rfl (fun h h1 => by
            by_cases e : h = i
            · rw [e]
              omega
            · exact hh h (by omega))
        · skip
          refine xr_iconst C d_Tr_hasHolesOf_23 ?_
          exact xr_zret C E (by omega) ⟨rfl, rfl, rfl, by rw [hOK_f (i := i) (by omega) (by omega)]; rfl⟩ (by decide) (by decide) d_Tr_hasHolesOf_24
  refine xr_iconst C d_Tr_hasHolesOf_0 ?_
  refine xr_istore_n C 3 d_Tr_hasHolesOf_1 rfl (by decide) ?_
  exact lp 7 0 _ (by omega) (by omega) rfl rfl rfl rfl (fun h h1 => by omega)
