theorem xw_aI : Cond.arrayClass (newarray.typeOf .int) ∈ xTs := xw_mem 78 (by decide +kernel) (by decide +kernel)
theorem xw_aZ : Cond.arrayClass (newarray.typeOf .boolean) ∈ xTs := xw_mem 117 (by decide +kernel) (by decide +kernel)
theorem xw_aL : Cond.arrayClass .long ∈ xTs := xw_mem 855 (by decide +kernel) (by decide +kernel)
theorem xiRo : Cond.initialized y_Ro_init.cls ∈ xTs := xw_mem 6 (by decide +kernel) (by decide +kernel)
theorem xcRo : Cond.code y_Ro_init c_Ro_init 1 none ∈ xTs := xw_mem 167 (by decide +kernel) (by decide +kernel)
theorem xnw_Ro {G : xG} {L : Launch} {D : va_G} {cA : Nat → ClassId} {base : Nat} {cc : ByteArray} {nL : Nat} {own : String} {R : Room} (C : XC G L D cA base cc nL own R) : XNw G (.methodLinkNest R_RS 34 y_Ro_init R_RS) := by
  obtain ⟨p, l, e, R1, s, m, args, below, meth, c, Q, nL1, D1, base1⟩ := G
  obtain ⟨rfl, rfl, rfl, rfl, rfl, hx, hb, hml, hown, hts, hK, hlocks, hbase, hgl⟩ := C
  exact hgl.2.2.2.1
set_option maxHeartbeats 4000000 in
set_option maxRecDepth 100000 in
theorem m_Ro_init_25 {L : Launch} {D : va_G} {cA : Nat → ClassId} {base : Nat} {ad : Nat → Nat} {w : Nat → va_E} (hwS : w 25 = xOb 0 [.null, .int (zI 0)]) : XM L D cA base y_Ro_init c_Ro_init 1 none (xrm 1 1 800) [.ref (ad 25)] 26 ad w (fun v n' ad' w' => n' = 27 ∧ v = none ∧ (∀ k, k < 26 → ad' k = ad k) ∧ (∀ k, k < 25 → w' k = w k) ∧ w' 25 = roO ad' 25 0 ∧ w' 26 = xIA (cA 0) 800 (fun _ => 0)) xF := by
  refine xm_of (by decide +kernel) (by simp [Value.category]) (Nat.le_of_ble_eq_true rfl) (fun G C E hI => ?_)
  refine xr_aload_n C 0 d_Ro_init_0 rfl rfl ?_
  refine xr_objInit C xobj_Ro_3 (by decide) (by decide) d_Ro_init_1 ?_
  refine xr_aload_n C 0 d_Ro_init_4 rfl rfl ?_
  refine xr_sipush C d_Ro_init_5 (by decide) ?_
  refine xz_newi C (Or.inl ⟨rfl, rfl⟩) xw_aI (by decide) (by decide) d_Ro_init_8 (fun q26 => ?_)
  refine xr_putF (k := 25) C (hI rfl) xf_Ro_9 hwS (by decide) rfl rfl (Nat.le_of_ble_eq_true rfl) d_Ro_init_10 ?_
  refine xr_aload_n C 0 d_Ro_init_13 rfl rfl ?_
  refine xr_iconst C d_Ro_init_14 ?_
  refine xr_put (k := 25) C xf_Ro_15 rfl (by decide) rfl rfl (Nat.le_of_ble_eq_true rfl) d_Ro_init_15 ?_
  exact xr_vret C E ⟨rfl, rfl, fun k hk => (va_ne (by omega)).trans rfl, fun k hk => (va_ne (by omega)).trans ((va_ne (by omega)).trans ((va_ne (by omega)).trans (rfl))), rfl, rfl⟩ (by decide) (by decide) d_Ro_init_18
set_option maxHeartbeats 4000000 in
set_option maxRecDepth 100000 in
theorem m_Ro_init_27 {L : Launch} {D : va_G} {cA : Nat → ClassId} {base : Nat} {ad : Nat → Nat} {w : Nat → va_E} (hwS : w 27 = xOb 0 [.null, .int (zI 0)]) : XM L D cA base y_Ro_init c_Ro_init 1 none (xrm 1 1 800) [.ref (ad 27)] 28 ad w (fun v n' ad' w' => n' = 29 ∧ v = none ∧ (∀ k, k < 28 → ad' k = ad k) ∧ (∀ k, k < 27 → w' k = w k) ∧ w' 27 = roO ad' 27 0 ∧ w' 28 = xIA (cA 0) 800 (fun _ => 0)) xF := by
  refine xm_of (by decide +kernel) (by simp [Value.category]) (Nat.le_of_ble_eq_true rfl) (fun G C E hI => ?_)
  refine xr_aload_n C 0 d_Ro_init_0 rfl rfl ?_
  refine xr_objInit C xobj_Ro_3 (by decide) (by decide) d_Ro_init_1 ?_
  refine xr_aload_n C 0 d_Ro_init_4 rfl rfl ?_
  refine xr_sipush C d_Ro_init_5 (by decide) ?_
  refine xz_newi C (Or.inl ⟨rfl, rfl⟩) xw_aI (by decide) (by decide) d_Ro_init_8 (fun q28 => ?_)
  refine xr_putF (k := 27) C (hI rfl) xf_Ro_9 hwS (by decide) rfl rfl (Nat.le_of_ble_eq_true rfl) d_Ro_init_10 ?_
  refine xr_aload_n C 0 d_Ro_init_13 rfl rfl ?_
  refine xr_iconst C d_Ro_init_14 ?_
  refine xr_put (k := 27) C xf_Ro_15 rfl (by decide) rfl rfl (Nat.le_of_ble_eq_true rfl) d_Ro_init_15 ?_
  exact xr_vret C E ⟨rfl, rfl, fun k hk => (va_ne (by omega)).trans rfl, fun k hk => (va_ne (by omega)).trans ((va_ne (by omega)).trans ((va_ne (by omega)).trans (rfl))), rfl, rfl⟩ (by decide) (by decide) d_Ro_init_18
set_option maxHeartbeats 4000000 in
set_option maxRecDepth 100000 in
theorem m_Tr_init {L : Launch} {D : va_G} {cA : Nat → ClassId} {base : Nat} {ad : Nat → Nat} {w : Nat → va_E} (hwS : w 1 = xOb 3 [.null, .null, .null, .null, .null, .null, .null, .null, .null, .null, .int (zI 0)]) : XM L D cA base y_Tr_init c_Tr_init 1 none (xrm 1 10 4712) [.ref (ad 1)] 2 ad w (fun v n' ad' w' => n' = 12 ∧ v = none ∧ (∀ k, k < 2 → ad' k = ad k) ∧ (∀ k, k < 1 → w' k = w k) ∧ w' 1 = trO ad' 0 ∧ w' 2 = xIA (cA 0) 300 (fun _ => 0) ∧ w' 3 = xIA (cA 0) 300 (fun _ => 0) ∧ w' 4 = xIA (cA 0) 300 (fun _ => 0) ∧ w' 5 = xIA (cA 0) 300 (fun _ => 0) ∧ w' 6 = xIA (cA 0) 300 (fun _ => 0) ∧ w' 7 = xIA (cA 0) 300 (fun _ => 0) ∧ w' 8 = xIA (cA 0) 300 (fun _ => 0) ∧ w' 9 = xIA (cA 0) 1800 (fun _ => 0) ∧ w' 11 = xIA (cA 0) 300 (fun _ => 0) ∧ ∃ f : Nat → Int, w' 10 = xIA (cA 0) 512 f ∧ (∀ j, j < 512 → f j = -1) ∧ ∀ j, 512 ≤ j → f j = 0) xF := by
  refine xm_of (by decide +kernel) (by simp [Value.category]) (Nat.le_of_ble_eq_true rfl) (fun G C E hI => ?_)
  refine xr_aload_n C 0 d_Tr_init_0 rfl rfl ?_
  refine xr_objInit C xobj_Tr_3 (by decide) (by decide) d_Tr_init_1 ?_
  refine xr_aload_n C 0 d_Tr_init_4 rfl rfl ?_
  refine xr_sipush C d_Tr_init_5 (by decide) ?_
  refine xz_newi C (Or.inl ⟨rfl, rfl⟩) xw_aI (by decide) (by decide) d_Tr_init_8 (fun q2 => ?_)
  refine xr_putF (k := 1) C (hI rfl) xf_Tr_9 hwS (by decide) rfl rfl (Nat.le_of_ble_eq_true rfl) d_Tr_init_10 ?_
  refine xr_aload_n C 0 d_Tr_init_13 rfl rfl ?_
  refine xr_sipush C d_Tr_init_14 (by decide) ?_
  refine xz_newi C (Or.inl ⟨rfl, rfl⟩) xw_aI (by decide) (by decide) d_Tr_init_17 (fun q3 => ?_)
  refine xr_putF (k := 1) C (hI rfl) xf_Tr_15 rfl (by decide) rfl rfl (Nat.le_of_ble_eq_true rfl) d_Tr_init_19 ?_
  refine xr_aload_n C 0 d_Tr_init_22 rfl rfl ?_
  refine xr_sipush C d_Tr_init_23 (by decide) ?_
  refine xz_newi C (Or.inl ⟨rfl, rfl⟩) xw_aI (by decide) (by decide) d_Tr_init_26 (fun q4 => ?_)
  refine xr_putF (k := 1) C (hI rfl) xf_Tr_18 rfl (by decide) rfl rfl (Nat.le_of_ble_eq_true rfl) d_Tr_init_28 ?_
  refine xr_aload_n C 0 d_Tr_init_31 rfl rfl ?_
  refine xr_sipush C d_Tr_init_32 (by decide) ?_
  refine xz_newi C (Or.inl ⟨rfl, rfl⟩) xw_aI (by decide) (by decide) d_Tr_init_35 (fun q5 => ?_)
  refine xr_putF (k := 1) C (hI rfl) xf_Tr_21 rfl (by decide) rfl rfl (Nat.le_of_ble_eq_true rfl) d_Tr_init_37 ?_
  refine xr_aload_n C 0 d_Tr_init_40 rfl rfl ?_
  refine xr_sipush C d_Tr_init_41 (by decide) ?_
  refine xz_newi C (Or.inl ⟨rfl, rfl⟩) xw_aI (by decide) (by decide) d_Tr_init_44 (fun q6 => ?_)
  refine xr_putF (k := 1) C (hI rfl) xf_Tr_24 rfl (by decide) rfl rfl (Nat.le_of_ble_eq_true rfl) d_Tr_init_46 ?_
  refine xr_aload_n C 0 d_Tr_init_49 rfl rfl ?_
  refine xr_sipush C d_Tr_init_50 (by decide) ?_
  refine xz_newi C (Or.inl ⟨rfl, rfl⟩) xw_aI (by decide) (by decide) d_Tr_init_53 (fun q7 => ?_)
  refine xr_putF (k := 1) C (hI rfl) xf_Tr_27 rfl (by decide) rfl rfl (Nat.le_of_ble_eq_true rfl) d_Tr_init_55 ?_
  refine xr_aload_n C 0 d_Tr_init_58 rfl rfl ?_
  refine xr_sipush C d_Tr_init_59 (by decide) ?_
  refine xz_newi C (Or.inl ⟨rfl, rfl⟩) xw_aI (by decide) (by decide) d_Tr_init_62 (fun q8 => ?_)
  refine xr_putF (k := 1) C (hI rfl) xf_Tr_30 rfl (by decide) rfl rfl (Nat.le_of_ble_eq_true rfl) d_Tr_init_64 ?_
  refine xr_aload_n C 0 d_Tr_init_67 rfl rfl ?_
  refine xr_sipush C d_Tr_init_68 (by decide) ?_
  refine xz_newi C (Or.inl ⟨rfl, rfl⟩) xw_aI (by decide) (by decide) d_Tr_init_71 (fun q9 => ?_)
  refine xr_putF (k := 1) C (hI rfl) xf_Tr_33 rfl (by decide) rfl rfl (Nat.le_of_ble_eq_true rfl) d_Tr_init_73 ?_
  refine xr_aload_n C 0 d_Tr_init_76 rfl rfl ?_
  refine xr_sipush C d_Tr_init_77 (by decide) ?_
  refine xz_newi C (Or.inl ⟨rfl, rfl⟩) xw_aI (by decide) (by decide) d_Tr_init_80 (fun q10 => ?_)
  refine xr_putF (k := 1) C (hI rfl) xf_Tr_36 rfl (by decide) rfl rfl (Nat.le_of_ble_eq_true rfl) d_Tr_init_82 ?_
  refine xr_aload_n C 0 d_Tr_init_85 rfl rfl ?_
  refine xr_sipush C d_Tr_init_86 (by decide) ?_
  refine xz_newi C (Or.inl ⟨rfl, rfl⟩) xw_aI (by decide) (by decide) d_Tr_init_89 (fun q11 => ?_)
  refine xr_putF (k := 1) C (hI rfl) xf_Tr_39 rfl (by decide) rfl rfl (Nat.le_of_ble_eq_true rfl) d_Tr_init_91 ?_
  refine xr_aload_n C 0 d_Tr_init_94 rfl rfl ?_
  refine xr_iconst C d_Tr_init_95 ?_
  refine xr_put (k := 1) C xf_Tr_42 rfl (by decide) rfl rfl (Nat.le_of_ble_eq_true rfl) d_Tr_init_96 ?_
  refine xr_aload_n C 0 d_Tr_init_99 rfl rfl ?_
  refine xr_get (k := 1) C xg_Tr_36 rfl (by decide) rfl d_Tr_init_100 ?_
  refine xr_iconst C d_Tr_init_103 ?_
  refine xr_callS C (m_Ar_fill (n := 12) (k := 10) (N := 512) (v := -1) (by decide) (by decide) rfl) xm_Tr_46 x2_Ar_fill (by decide) (by decide) (Nat.le_of_ble_eq_true rfl) rfl d_Tr_init_104 (fun En n9 ad9 w9 hx9 => hx9.elim) (fun v n9 ad9 w9 hp => ?_)
  obtain ⟨rfl, rfl, rfl, ff, hwF, hF1, hF2, hF3⟩ := hp
  exact xr_vret C E ⟨rfl, rfl, fun k hk => (va_ne (by omega)).trans ((va_ne (by omega)).trans ((va_ne (by omega)).trans ((va_ne (by omega)).trans ((va_ne (by omega)).trans ((va_ne (by omega)).trans ((va_ne (by omega)).trans ((va_ne (by omega)).trans ((va_ne (by omega)).trans ((va_ne (by omega)).trans rfl))))))))), fun k hk => (hF3 k (by omega)).trans ((va_ne (by omega)).trans ((va_ne (by omega)).trans ((va_ne (by omega)).trans ((va_ne (by omega)).trans ((va_ne (by omega)).trans ((va_ne (by omega)).trans ((va_ne (by omega)).trans ((va_ne (by omega)).trans ((va_ne (by omega)).trans ((va_ne (by omega)).trans ((va_ne (by omega)).trans ((va_ne (by omega)).trans ((va_ne (by omega)).trans ((va_ne (by omega)).trans ((va_ne (by omega)).trans ((va_ne (by omega)).trans ((va_ne (by omega)).trans ((va_ne (by omega)).trans ((va_ne (by omega)).trans ((va_ne (by omega)).trans ((va_ne (by omega)).trans (rfl)))))))))))))))))))))), (hF3 1 (by decide)).trans rfl, (hF3 2 (by decide)).trans rfl, (hF3 3 (by decide)).trans rfl, (hF3 4 (by decide)).trans rfl, (hF3 5 (by decide)).trans rfl, (hF3 6 (by decide)).trans rfl, (hF3 7 (by decide)).trans rfl, (hF3 8 (by decide)).trans rfl, (hF3 9 (by decide)).trans rfl, (hF3 11 (by decide)).trans rfl, ff, hwF, hF1, fun j hj => (hF2 j hj).trans rfl⟩ (by decide) (by decide) d_Tr_init_107
set_option maxHeartbeats 4000000 in
set_option maxRecDepth 100000 in
theorem m_Ru_init {L : Launch} {D : va_G} {cA : Nat → ClassId} {base : Nat} {ad : Nat → Nat} {w : Nat → va_E} (hwS : w 12 = xOb 1 [.null, .null, .null, .null, .null, .null, .int (zI 0)]) : XM L D cA base y_Ru_init c_Ru_init 1 none (xrm 1 6 90) [.ref (ad 12)] 13 ad w (fun v n' ad' w' => n' = 19 ∧ v = none ∧ (∀ k, k < 13 → ad' k = ad k) ∧ (∀ k, k < 12 → w' k = w k) ∧ w' 12 = ruO ad' 0 ∧ w' 13 = xIA (cA 0) 16 (fun _ => 0) ∧ w' 14 = xIA (cA 0) 16 (fun _ => 0) ∧ w' 15 = xIA (cA 0) 16 (fun _ => 0) ∧ w' 16 = xIA (cA 1) 16 (fun _ => 0) ∧ w' 17 = xIA (cA 1) 16 (fun _ => 0) ∧ ∃ f : Nat → Int, w' 18 = xIA (cA 0) 10 f ∧ (∀ j, j < 10 → f j = 2) ∧ ∀ j, 10 ≤ j → f j = 0) xF := by
  refine xm_of (by decide +kernel) (by simp [Value.category]) (Nat.le_of_ble_eq_true rfl) (fun G C E hI => ?_)
  refine xr_aload_n C 0 d_Ru_init_0 rfl rfl ?_
  refine xr_objInit C xobj_Ru_3 (by decide) (by decide) d_Ru_init_1 ?_
  refine xr_aload_n C 0 d_Ru_init_4 rfl rfl ?_
  refine xr_bipush C d_Ru_init_5 (by decide) ?_
  refine xz_newi C (Or.inl ⟨rfl, rfl⟩) xw_aI (by decide) (by decide) d_Ru_init_7 (fun q13 => ?_)
  refine xr_putF (k := 12) C (hI rfl) xf_Ru_9 hwS (by decide) rfl rfl (Nat.le_of_ble_eq_true rfl) d_Ru_init_9 ?_
  refine xr_aload_n C 0 d_Ru_init_12 rfl rfl ?_
  refine xr_bipush C d_Ru_init_13 (by decide) ?_
  refine xz_newi C (Or.inl ⟨rfl, rfl⟩) xw_aI (by decide) (by decide) d_Ru_init_15 (fun q14 => ?_)
  refine xr_putF (k := 12) C (hI rfl) xf_Ru_15 rfl (by decide) rfl rfl (Nat.le_of_ble_eq_true rfl) d_Ru_init_17 ?_
  refine xr_aload_n C 0 d_Ru_init_20 rfl rfl ?_
  refine xr_bipush C d_Ru_init_21 (by decide) ?_
  refine xz_newi C (Or.inl ⟨rfl, rfl⟩) xw_aI (by decide) (by decide) d_Ru_init_23 (fun q15 => ?_)
  refine xr_putF (k := 12) C (hI rfl) xf_Ru_18 rfl (by decide) rfl rfl (Nat.le_of_ble_eq_true rfl) d_Ru_init_25 ?_
  refine xr_aload_n C 0 d_Ru_init_28 rfl rfl ?_
  refine xr_bipush C d_Ru_init_29 (by decide) ?_
  refine xz_newi C (Or.inr ⟨rfl, rfl⟩) xw_aZ (by decide) (by decide) d_Ru_init_31 (fun q16 => ?_)
  refine xr_putF (k := 12) C (hI rfl) xf_Ru_21 rfl (by decide) rfl rfl (Nat.le_of_ble_eq_true rfl) d_Ru_init_33 ?_
  refine xr_aload_n C 0 d_Ru_init_36 rfl rfl ?_
  refine xr_bipush C d_Ru_init_37 (by decide) ?_
  refine xz_newi C (Or.inr ⟨rfl, rfl⟩) xw_aZ (by decide) (by decide) d_Ru_init_39 (fun q17 => ?_)
  refine xr_putF (k := 12) C (hI rfl) xf_Ru_25 rfl (by decide) rfl rfl (Nat.le_of_ble_eq_true rfl) d_Ru_init_41 ?_
  refine xr_aload_n C 0 d_Ru_init_44 rfl rfl ?_
  refine xr_bipush C d_Ru_init_45 (by decide) ?_
  refine xz_newi C (Or.inl ⟨rfl, rfl⟩) xw_aI (by decide) (by decide) d_Ru_init_47 (fun q18 => ?_)
  refine xr_putF (k := 12) C (hI rfl) xf_Ru_28 rfl (by decide) rfl rfl (Nat.le_of_ble_eq_true rfl) d_Ru_init_49 ?_
  refine xr_aload_n C 0 d_Ru_init_52 rfl rfl ?_
  refine xr_iconst C d_Ru_init_53 ?_
  refine xr_put (k := 12) C xf_Ru_31 rfl (by decide) rfl rfl (Nat.le_of_ble_eq_true rfl) d_Ru_init_54 ?_
  refine xr_aload_n C 0 d_Ru_init_57 rfl rfl ?_
  refine xr_get (k := 12) C xg_Ru_28 rfl (by decide) rfl d_Ru_init_58 ?_
  refine xr_iconst C d_Ru_init_61 ?_
  refine xr_callS C (m_Ar_fill (n := 19) (k := 18) (N := 10) (v := 2) (by decide) (by decide) rfl) xm_Ru_35 x2_Ar_fill (by decide) (by decide) (Nat.le_of_ble_eq_true rfl) rfl d_Ru_init_62 (fun En n9 ad9 w9 hx9 => hx9.elim) (fun v n9 ad9 w9 hp => ?_)
  obtain ⟨rfl, rfl, rfl, ff, hwF, hF1, hF2, hF3⟩ := hp
  exact xr_vret C E ⟨rfl, rfl, fun k hk => (va_ne (by omega)).trans ((va_ne (by omega)).trans ((va_ne (by omega)).trans ((va_ne (by omega)).trans ((va_ne (by omega)).trans ((va_ne (by omega)).trans rfl))))), fun k hk => (hF3 k (by omega)).trans ((va_ne (by omega)).trans ((va_ne (by omega)).trans ((va_ne (by omega)).trans ((va_ne (by omega)).trans ((va_ne (by omega)).trans ((va_ne (by omega)).trans ((va_ne (by omega)).trans ((va_ne (by omega)).trans ((va_ne (by omega)).trans ((va_ne (by omega)).trans ((va_ne (by omega)).trans ((va_ne (by omega)).trans ((va_ne (by omega)).trans (rfl)))))))))))))), (hF3 12 (by decide)).trans rfl, (hF3 13 (by decide)).trans rfl, (hF3 14 (by decide)).trans rfl, (hF3 15 (by decide)).trans rfl, (hF3 16 (by decide)).trans rfl, (hF3 17 (by decide)).trans rfl, ff, hwF, hF1, fun j hj => (hF2 j hj).trans rfl⟩ (by decide) (by decide) d_Ru_init_65
set_option maxHeartbeats 4000000 in
set_option maxRecDepth 100000 in
theorem m_Rn_init {L : Launch} {D : va_G} {cA : Nat → ClassId} {base : Nat} {ad : Nat → Nat} {w : Nat → va_E} (hwS : w 19 = xOb 2 [.null, .null, .null, .null, .null, .int (zI 0), .int (zI 0), .int (zI 0), .null, .null, .int (zI 0), .int (zI 0)]) : XM L D cA base y_Rn_init c_Rn_init 3 none (xrm 1 5 382) [.ref (ad 19), .ref (ad 1), .ref (ad 12)] 20 ad w (fun v n' ad' w' => n' = 25 ∧ v = none ∧ (∀ k, k < 20 → ad' k = ad k) ∧ (∀ k, k < 19 → w' k = w k) ∧ w' 19 = rnO ad' 0 0 0 0 false ∧ w' 20 = xIA (cA 1) 16 (fun _ => 0) ∧ w' 21 = xIA (cA 0) 300 (fun _ => 0) ∧ w' 22 = xIA (cA 0) 6 (fun _ => 0) ∧ w' 23 = xIA (cA 0) 30 (fun _ => 0) ∧ w' 24 = xIA (cA 1) 30 (fun _ => 0)) xF := by
  refine xm_of (by decide +kernel) (by simp [Value.category]) (Nat.le_of_ble_eq_true rfl) (fun G C E hI => ?_)
  refine xr_aload_n C 0 d_Rn_init_0 rfl rfl ?_
  refine xr_objInit C xobj_Rn_3 (by decide) (by decide) d_Rn_init_1 ?_
  refine xr_aload_n C 0 d_Rn_init_4 rfl rfl ?_
  refine xr_bipush C d_Rn_init_5 (by decide) ?_
  refine xz_newi C (Or.inr ⟨rfl, rfl⟩) xw_aZ (by decide) (by decide) d_Rn_init_7 (fun q20 => ?_)
  refine xr_putF (k := 19) C (hI rfl) xf_Rn_9 hwS (by decide) rfl rfl (Nat.le_of_ble_eq_true rfl) d_Rn_init_9 ?_
  refine xr_aload_n C 0 d_Rn_init_12 rfl rfl ?_
  refine xr_sipush C d_Rn_init_13 (by decide) ?_
  refine xz_newi C (Or.inl ⟨rfl, rfl⟩) xw_aI (by decide) (by decide) d_Rn_init_16 (fun q21 => ?_)
  refine xr_putF (k := 19) C (hI rfl) xf_Rn_15 rfl (by decide) rfl rfl (Nat.le_of_ble_eq_true rfl) d_Rn_init_18 ?_
  refine xr_aload_n C 0 d_Rn_init_21 rfl rfl ?_
  refine xr_bipush C d_Rn_init_22 (by decide) ?_
  refine xz_newi C (Or.inl ⟨rfl, rfl⟩) xw_aI (by decide) (by decide) d_Rn_init_24 (fun q22 => ?_)
  refine xr_putF (k := 19) C (hI rfl) xf_Rn_19 rfl (by decide) rfl rfl (Nat.le_of_ble_eq_true rfl) d_Rn_init_26 ?_
  refine xr_aload_n C 0 d_Rn_init_29 rfl rfl ?_
  refine xr_iconst C d_Rn_init_30 ?_
  refine xr_put (k := 19) C xf_Rn_22 rfl (by decide) rfl rfl (Nat.le_of_ble_eq_true rfl) d_Rn_init_31 ?_
  refine xr_aload_n C 0 d_Rn_init_34 rfl rfl ?_
  refine xr_iconst C d_Rn_init_35 ?_
  refine xr_put (k := 19) C xf_Rn_26 rfl (by decide) rfl rfl (Nat.le_of_ble_eq_true rfl) d_Rn_init_36 ?_
  refine xr_aload_n C 0 d_Rn_init_39 rfl rfl ?_
  refine xr_iconst C d_Rn_init_40 ?_
  refine xr_put (k := 19) C xf_Rn_29 rfl (by decide) rfl rfl (Nat.le_of_ble_eq_true rfl) d_Rn_init_41 ?_
  refine xr_aload_n C 0 d_Rn_init_44 rfl rfl ?_
  refine xr_bipush C d_Rn_init_45 (by decide) ?_
  refine xz_newi C (Or.inl ⟨rfl, rfl⟩) xw_aI (by decide) (by decide) d_Rn_init_47 (fun q23 => ?_)
  refine xr_putF (k := 19) C (hI rfl) xf_Rn_32 rfl (by decide) rfl rfl (Nat.le_of_ble_eq_true rfl) d_Rn_init_49 ?_
  refine xr_aload_n C 0 d_Rn_init_52 rfl rfl ?_
  refine xr_bipush C d_Rn_init_53 (by decide) ?_
  refine xz_newi C (Or.inr ⟨rfl, rfl⟩) xw_aZ (by decide) (by decide) d_Rn_init_55 (fun q24 => ?_)
  refine xr_putF (k := 19) C (hI rfl) xf_Rn_35 rfl (by decide) rfl rfl (Nat.le_of_ble_eq_true rfl) d_Rn_init_57 ?_
  refine xr_aload_n C 0 d_Rn_init_60 rfl rfl ?_
  refine xr_iconst C d_Rn_init_61 ?_
  refine xr_put (k := 19) C xf_Rn_38 rfl (by decide) rfl rfl (Nat.le_of_ble_eq_true rfl) d_Rn_init_62 ?_
  refine xr_aload_n C 0 d_Rn_init_65 rfl rfl ?_
  refine xr_iconst C d_Rn_init_66 ?_
  refine xr_put (k := 19) C xf_Rn_41 rfl (by decide) (by decide) (by decide) (Nat.le_of_ble_eq_true rfl) d_Rn_init_67 ?_
  refine xr_aload_n C 0 d_Rn_init_70 rfl rfl ?_
  refine xr_aload_n C 1 d_Rn_init_71 rfl rfl ?_
  refine xr_putF (k := 19) C (hI rfl) xf_Rn_45 rfl (by decide) rfl rfl (Nat.le_of_ble_eq_true rfl) d_Rn_init_72 ?_
  refine xr_aload_n C 0 d_Rn_init_75 rfl rfl ?_
  refine xr_aload_n C 2 d_Rn_init_76 rfl rfl ?_
  refine xr_putF (k := 19) C (hI rfl) xf_Rn_49 rfl (by decide) rfl rfl (Nat.le_of_ble_eq_true rfl) d_Rn_init_77 ?_
  exact xr_vret C E ⟨rfl, rfl, fun k hk => (va_ne (by omega)).trans ((va_ne (by omega)).trans ((va_ne (by omega)).trans ((va_ne (by omega)).trans ((va_ne (by omega)).trans rfl)))), fun k hk => (va_ne (by omega)).trans ((va_ne (by omega)).trans ((va_ne (by omega)).trans ((va_ne (by omega)).trans ((va_ne (by omega)).trans ((va_ne (by omega)).trans ((va_ne (by omega)).trans ((va_ne (by omega)).trans ((va_ne (by omega)).trans ((va_ne (by omega)).trans ((va_ne (by omega)).trans ((va_ne (by omega)).trans ((va_ne (by omega)).trans ((va_ne (by omega)).trans ((va_ne (by omega)).trans ((va_ne (by omega)).trans ((va_ne (by omega)).trans (rfl))))))))))))))))), rfl, rfl, rfl, rfl, rfl, rfl⟩ (by decide) (by decide) d_Rn_init_80
theorem trO_ad {ad ad' : Nat → Nat} {t : Int} (h : ∀ k, k < 12 → ad' k = ad k) : trO ad t = trO ad' t := by simp only [trO, h 2 (by decide), h 3 (by decide), h 4 (by decide), h 5 (by decide), h 6 (by decide), h 7 (by decide), h 8 (by decide), h 9 (by decide), h 10 (by decide), h 11 (by decide)]
theorem ruO_ad {ad ad' : Nat → Nat} {t : Int} (h : ∀ k, k < 19 → ad' k = ad k) : ruO ad t = ruO ad' t := by simp only [ruO, h 13 (by decide), h 14 (by decide), h 15 (by decide), h 16 (by decide), h 17 (by decide), h 18 (by decide)]
theorem rnO_ad {ad ad' : Nat → Nat} {a b c d : Int} {e : Bool} (h : ∀ k, k < 25 → ad' k = ad k) : rnO ad a b c d e = rnO ad' a b c d e := by simp only [rnO, h 1 (by decide), h 12 (by decide), h 20 (by decide), h 21 (by decide), h 22 (by decide), h 23 (by decide), h 24 (by decide)]
theorem roO_ad {ad ad' : Nat → Nat} {k : Nat} {t : Int} (h : ad' (k + 1) = ad (k + 1)) : roO ad k t = roO ad' k t := by simp only [roO, h]
theorem rsO_ad {ad ad' : Nat → Nat} {t : Int} {e : Bool} (h : ∀ k, k < 29 → ad' k = ad k) : rsO ad 25 27 t e = rsO ad' 25 27 t e := by simp only [rsO, h 1 (by decide), h 12 (by decide), h 19 (by decide), h 25 (by decide), h 27 (by decide)]
set_option maxHeartbeats 4000000 in
set_option maxRecDepth 100000 in
theorem m_RS_init {L : Launch} {D : va_G} {cA : Nat → ClassId} {base : Nat} {ad : Nat → Nat} {w : Nat → va_E} (hwS : w 0 = xOb 4 [.null, .null, .null, .null, .null, .int (zI 0), .int (zI 0)]) : XM L D cA base y_RS_init c_RS_init 1 none (xrm 3 28 6818) [.ref (ad 0)] 1 ad w (fun v n' ad' w' => n' = 29 ∧ v = none ∧ ad' 0 = ad 0 ∧ w' 0 = rsO ad' 25 27 0 false ∧ w' 1 = trO ad' 0 ∧ w' 2 = xIA (cA 0) 300 (fun _ => 0) ∧ w' 3 = xIA (cA 0) 300 (fun _ => 0) ∧ w' 4 = xIA (cA 0) 300 (fun _ => 0) ∧ w' 5 = xIA (cA 0) 300 (fun _ => 0) ∧ w' 6 = xIA (cA 0) 300 (fun _ => 0) ∧ w' 7 = xIA (cA 0) 300 (fun _ => 0) ∧ w' 8 = xIA (cA 0) 300 (fun _ => 0) ∧ w' 9 = xIA (cA 0) 1800 (fun _ => 0) ∧ w' 11 = xIA (cA 0) 300 (fun _ => 0) ∧ w' 12 = ruO ad' 0 ∧ w' 13 = xIA (cA 0) 16 (fun _ => 0) ∧ w' 14 = xIA (cA 0) 16 (fun _ => 0) ∧ w' 15 = xIA (cA 0) 16 (fun _ => 0) ∧ w' 16 = xIA (cA 1) 16 (fun _ => 0) ∧ w' 17 = xIA (cA 1) 16 (fun _ => 0) ∧ w' 19 = rnO ad' 0 0 0 0 false ∧ w' 20 = xIA (cA 1) 16 (fun _ => 0) ∧ w' 21 = xIA (cA 0) 300 (fun _ => 0) ∧ w' 22 = xIA (cA 0) 6 (fun _ => 0) ∧ w' 23 = xIA (cA 0) 30 (fun _ => 0) ∧ w' 24 = xIA (cA 1) 30 (fun _ => 0) ∧ w' 25 = roO ad' 25 0 ∧ w' 26 = xIA (cA 0) 800 (fun _ => 0) ∧ w' 27 = roO ad' 27 0 ∧ w' 28 = xIA (cA 0) 800 (fun _ => 0) ∧ (∃ f : Nat → Int, w' 10 = xIA (cA 0) 512 f ∧ (∀ j, j < 512 → f j = -1) ∧ ∀ j, 512 ≤ j → f j = 0) ∧ (∃ f : Nat → Int, w' 18 = xIA (cA 0) 10 f ∧ (∀ j, j < 10 → f j = 2) ∧ ∀ j, 10 ≤ j → f j = 0)) xF := by
  refine xm_of (by decide +kernel) (by simp [Value.category]) (Nat.le_of_ble_eq_true rfl) (fun G C E hI => ?_)
  refine xr_aload_n C 0 d_RS_init_0 rfl rfl ?_
  refine xr_objInit C xobj_RS_1 (by decide) (by decide) d_RS_init_1 ?_
  refine xr_aload_n C 0 d_RS_init_4 rfl rfl ?_
  refine xr_new (ci := 3) (fs := [.null, .null, .null, .null, .null, .null, .null, .null, .null, .null, .int (zI 0)]) C rfl xin_Tr tk_Tr ⟨xw_mem 23 (by decide +kernel) (by decide +kernel), xw_mem 24 (by decide +kernel) (by decide +kernel), xw_mem 2 (by decide +kernel) (by decide +kernel)⟩ (fun j hj => by rcases (show j = 0 ∨ j = 1 ∨ j = 2 ∨ j = 3 ∨ j = 4 ∨ j = 5 ∨ j = 6 ∨ j = 7 ∨ j = 8 ∨ j = 9 ∨ j = 10 by omega) with rfl | rfl | rfl | rfl | rfl | rfl | rfl | rfl | rfl | rfl | rfl <;> rfl) (by decide) d_RS_init_5 (fun q1 => ?_)
  refine xr_dup C rfl d_RS_init_8 ?_
  refine xr_callI (k9 := 1) (As := []) (st := [.ref q1, .ref (ad 0)]) C (m_Tr_init rfl) xm_RS_9 x2_Tr_init (by decide) (by decide) (Nat.le_of_ble_eq_true rfl) rfl d_RS_init_9 (fun v n9 ad1 w1 hp => ?_)
  obtain ⟨rfl, rfl, ha1, hf1, g1, g2, g3, g4, g5, g6, g7, g8, g9, g11, ff10, g10, g10v, g10w⟩ := hp
  have hb1 : ∀ k, k < 1 → ad1 k = ad k := fun k hk => (ha1 k (by omega)).trans (va_ne (by omega))
  have hq1 : q1 = ad1 1 := (ha1 1 (by decide)).symm
  show XW G 12 ad1 w1 _ _ 12 _ [.ref q1, .ref (ad 0)]
  rw [hq1, ← hb1 0 (by decide)]
  have h0_1 : w1 0 = xOb 4 [.null, .null, .null, .null, .null, .int (zI 0), .int (zI 0)] := (hf1 0 (by decide)).trans hwS
  refine xr_putF (k := 0) C (hI rfl) xf_RS_10 h0_1 (by decide) rfl rfl (Nat.le_of_ble_eq_true rfl) d_RS_init_12 ?_
  refine xr_aload_n C 0 d_RS_init_15 rfl rfl ?_
  refine xr_new (ci := 1) (fs := [.null, .null, .null, .null, .null, .null, .int (zI 0)]) C rfl xin_Ru tk_Ru ⟨xw_mem 79 (by decide +kernel) (by decide +kernel), xw_mem 80 (by decide +kernel) (by decide +kernel), xw_mem 4 (by decide +kernel) (by decide +kernel)⟩ (fun j hj => by rcases (show j = 0 ∨ j = 1 ∨ j = 2 ∨ j = 3 ∨ j = 4 ∨ j = 5 ∨ j = 6 by omega) with rfl | rfl | rfl | rfl | rfl | rfl | rfl <;> rfl) (by decide) d_RS_init_16 (fun q12 => ?_)
  refine xr_dup C rfl d_RS_init_19 ?_
  refine xr_callI (k9 := 12) (As := []) (st := [.ref q12, .ref (ad1 0)]) C (m_Ru_init rfl) xm_RS_18 x2_Ru_init (by decide) (by decide) (Nat.le_of_ble_eq_true rfl) rfl d_RS_init_20 (fun v n9 ad2 w2 hp => ?_)
  obtain ⟨rfl, rfl, ha2, hf2, g12, g13, g14, g15, g16, g17, ff18, g18, g18v, g18w⟩ := hp
  have hb2 : ∀ k, k < 12 → ad2 k = ad1 k := fun k hk => (ha2 k (by omega)).trans (va_ne (by omega))
  have hq2 : q12 = ad2 12 := (ha2 12 (by decide)).symm
  show XW G 19 ad2 w2 _ _ 23 _ [.ref q12, .ref (ad1 0)]
  rw [hq2, ← hb2 0 (by decide)]
  have h0_2 : w2 0 = xOb 4 [.ref (ad2 1), .null, .null, .null, .null, .int (zI 0), .int (zI 0)] := (hf2 0 (by decide)).trans (show xOb 4 [.ref (ad1 1), .null, .null, .null, .null, .int (zI 0), .int (zI 0)] = xOb 4 [.ref (ad2 1), .null, .null, .null, .null, .int (zI 0), .int (zI 0)] by simp only [hb2 1 (by decide)])
  refine xr_putF (k := 0) C (hI rfl) xf_RS_19 h0_2 (by decide) rfl rfl (Nat.le_of_ble_eq_true rfl) d_RS_init_23 ?_
  refine xr_aload_n C 0 d_RS_init_26 rfl rfl ?_
  refine xr_new (ci := 2) (fs := [.null, .null, .null, .null, .null, .int (zI 0), .int (zI 0), .int (zI 0), .null, .null, .int (zI 0), .int (zI 0)]) C rfl xin_Rn tk_Rn ⟨xw_mem 118 (by decide +kernel) (by decide +kernel), xw_mem 119 (by decide +kernel) (by decide +kernel), xw_mem 5 (by decide +kernel) (by decide +kernel)⟩ (fun j hj => by rcases (show j = 0 ∨ j = 1 ∨ j = 2 ∨ j = 3 ∨ j = 4 ∨ j = 5 ∨ j = 6 ∨ j = 7 ∨ j = 8 ∨ j = 9 ∨ j = 10 ∨ j = 11 by omega) with rfl | rfl | rfl | rfl | rfl | rfl | rfl | rfl | rfl | rfl | rfl | rfl <;> rfl) (by decide) d_RS_init_27 (fun q19 => ?_)
  refine xr_dup C rfl d_RS_init_30 ?_
  refine xr_aload_n C 0 d_RS_init_31 rfl rfl ?_
  refine xr_get (k := 0) C xg_RS_10 rfl (by decide) rfl d_RS_init_32 ?_
  refine xr_aload_n C 0 d_RS_init_35 rfl rfl ?_
  refine xr_get (k := 0) C xg_RS_19 rfl (by decide) rfl d_RS_init_36 ?_
  refine xr_callI (k9 := 19) (As := [.ref (ad2 1), .ref (ad2 12)]) (st := [.ref q19, .ref (ad2 0)]) C (m_Rn_init rfl) xm_RS_25 x2_Rn_init (by decide) (by decide) (Nat.le_of_ble_eq_true rfl) rfl d_RS_init_39 (fun v n9 ad3 w3 hp => ?_)
  obtain ⟨rfl, rfl, ha3, hf3, g19, g20, g21, g22, g23, g24⟩ := hp
  have hb3 : ∀ k, k < 19 → ad3 k = ad2 k := fun k hk => (ha3 k (by omega)).trans (va_ne (by omega))
  have hq3 : q19 = ad3 19 := (ha3 19 (by decide)).symm
  show XW G 25 ad3 w3 _ _ 42 _ [.ref q19, .ref (ad2 0)]
  rw [hq3, ← hb3 0 (by decide)]
  have h0_3 : w3 0 = xOb 4 [.ref (ad3 1), .ref (ad3 12), .null, .null, .null, .int (zI 0), .int (zI 0)] := (hf3 0 (by decide)).trans (show xOb 4 [.ref (ad2 1), .ref (ad2 12), .null, .null, .null, .int (zI 0), .int (zI 0)] = xOb 4 [.ref (ad3 1), .ref (ad3 12), .null, .null, .null, .int (zI 0), .int (zI 0)] by simp only [hb3 1 (by decide), hb3 12 (by decide)])
  refine xr_putF (k := 0) C (hI rfl) xf_RS_28 h0_3 (by decide) rfl rfl (Nat.le_of_ble_eq_true rfl) d_RS_init_42 ?_
  refine xr_aload_n C 0 d_RS_init_45 rfl rfl ?_
  refine xr_new (ci := 0) (fs := [.null, .int (zI 0)]) C rfl xin_Ro tk_Ro ⟨xw_mem 163 (by decide +kernel) (by decide +kernel), xw_mem 164 (by decide +kernel) (by decide +kernel), xw_mem 6 (by decide +kernel) (by decide +kernel)⟩ (fun j hj => by rcases (show j = 0 ∨ j = 1 by omega) with rfl | rfl <;> rfl) (by decide) d_RS_init_46 (fun q25 => ?_)
  refine xr_dup C rfl d_RS_init_49 ?_
  refine xr_callIN (k9 := 25) (As := []) (st := [.ref q25, .ref (ad3 0)]) (host := R_RS) C (m_Ro_init_25 rfl) ⟨by decide +kernel, by decide +kernel, by decide +kernel⟩ (xnw_Ro C) xiRo xcRo x2_Ro_init (by decide) (by decide) (Nat.le_of_ble_eq_true rfl) rfl d_RS_init_50 (fun v n9 ad4 w4 hp => ?_)
  obtain ⟨rfl, rfl, ha4, hf4, g25, g26⟩ := hp
  have hb4 : ∀ k, k < 25 → ad4 k = ad3 k := fun k hk => (ha4 k (by omega)).trans (va_ne (by omega))
  have hq4 : q25 = ad4 25 := (ha4 25 (by decide)).symm
  show XW G 27 ad4 w4 _ _ 53 _ [.ref q25, .ref (ad3 0)]
  rw [hq4, ← hb4 0 (by decide)]
  have h0_4 : w4 0 = xOb 4 [.ref (ad4 1), .ref (ad4 12), .ref (ad4 19), .null, .null, .int (zI 0), .int (zI 0)] := (hf4 0 (by decide)).trans (show xOb 4 [.ref (ad3 1), .ref (ad3 12), .ref (ad3 19), .null, .null, .int (zI 0), .int (zI 0)] = xOb 4 [.ref (ad4 1), .ref (ad4 12), .ref (ad4 19), .null, .null, .int (zI 0), .int (zI 0)] by simp only [hb4 1 (by decide), hb4 12 (by decide), hb4 19 (by decide)])
  refine xr_put (k := 0) C xf_RS_35 h0_4 (by decide) rfl rfl (Nat.le_of_ble_eq_true rfl) d_RS_init_53 ?_
  refine xr_aload_n C 0 d_RS_init_56 rfl rfl ?_
  refine xr_new (ci := 0) (fs := [.null, .int (zI 0)]) C rfl xin_Ro tk_Ro ⟨xw_mem 163 (by decide +kernel) (by decide +kernel), xw_mem 164 (by decide +kernel) (by decide +kernel), xw_mem 6 (by decide +kernel) (by decide +kernel)⟩ (fun j hj => by rcases (show j = 0 ∨ j = 1 by omega) with rfl | rfl <;> rfl) (by decide) d_RS_init_57 (fun q27 => ?_)
  refine xr_dup C rfl d_RS_init_60 ?_
  refine xr_callIN (k9 := 27) (As := []) (st := [.ref q27, .ref (ad4 0)]) (host := R_RS) C (m_Ro_init_27 rfl) ⟨by decide +kernel, by decide +kernel, by decide +kernel⟩ (xnw_Ro C) xiRo xcRo x2_Ro_init (by decide) (by decide) (Nat.le_of_ble_eq_true rfl) rfl d_RS_init_61 (fun v n9 ad5 w5 hp => ?_)
  obtain ⟨rfl, rfl, ha5, hf5, g27, g28⟩ := hp
  have hb5 : ∀ k, k < 27 → ad5 k = ad4 k := fun k hk => (ha5 k (by omega)).trans (va_ne (by omega))
  have hq5 : q27 = ad5 27 := (ha5 27 (by decide)).symm
  show XW G 29 ad5 w5 _ _ 64 _ [.ref q27, .ref (ad4 0)]
  rw [hq5, ← hb5 0 (by decide)]
  have h0_5 : w5 0 = xOb 4 [.ref (ad5 1), .ref (ad5 12), .ref (ad5 19), .ref (ad5 25), .null, .int (zI 0), .int (zI 0)] := (hf5 0 (by decide)).trans (show xOb 4 [.ref (ad4 1), .ref (ad4 12), .ref (ad4 19), .ref (ad4 25), .null, .int (zI 0), .int (zI 0)] = xOb 4 [.ref (ad5 1), .ref (ad5 12), .ref (ad5 19), .ref (ad5 25), .null, .int (zI 0), .int (zI 0)] by simp only [hb5 1 (by decide), hb5 12 (by decide), hb5 19 (by decide), hb5 25 (by decide)])
  refine xr_put (k := 0) C xf_RS_39 h0_5 (by decide) rfl rfl (Nat.le_of_ble_eq_true rfl) d_RS_init_64 ?_
  refine xr_aload_n C 0 d_RS_init_67 rfl rfl ?_
  refine xr_iconst C d_RS_init_68 ?_
  refine xr_put (k := 0) C xf_RS_42 rfl (by decide) rfl rfl (Nat.le_of_ble_eq_true rfl) d_RS_init_69 ?_
  refine xr_aload_n C 0 d_RS_init_72 rfl rfl ?_
  refine xr_iconst C d_RS_init_73 ?_
  refine xr_put (k := 0) C xf_RS_46 rfl (by decide) (by decide) (by decide) (Nat.le_of_ble_eq_true rfl) d_RS_init_74 ?_
  have c5 : ∀ k, k < 27 → ad5 k = ad4 k := fun k hk => hb5 k hk
  have c4 : ∀ k, k < 25 → ad5 k = ad3 k := fun k hk => (c5 k (by omega)).trans (hb4 k hk)
  have c3 : ∀ k, k < 19 → ad5 k = ad2 k := fun k hk => (c4 k (by omega)).trans (hb3 k hk)
  have c2 : ∀ k, k < 12 → ad5 k = ad1 k := fun k hk => (c3 k (by omega)).trans (hb2 k hk)
  have z0 : ad5 0 = ad 0 := (c2 0 (by decide)).trans (hb1 0 (by decide))
  exact xr_vret C E ⟨rfl, rfl, z0, rfl, (hf5 1 (by decide)).trans ((hf4 1 (by decide)).trans ((hf3 1 (by decide)).trans ((hf2 1 (by decide)).trans (g1.trans (trO_ad c2))))), (hf5 2 (by decide)).trans ((hf4 2 (by decide)).trans ((hf3 2 (by decide)).trans ((hf2 2 (by decide)).trans (g2)))), (hf5 3 (by decide)).trans ((hf4 3 (by decide)).trans ((hf3 3 (by decide)).trans ((hf2 3 (by decide)).trans (g3)))), (hf5 4 (by decide)).trans ((hf4 4 (by decide)).trans ((hf3 4 (by decide)).trans ((hf2 4 (by decide)).trans (g4)))), (hf5 5 (by decide)).trans ((hf4 5 (by decide)).trans ((hf3 5 (by decide)).trans ((hf2 5 (by decide)).trans (g5)))), (hf5 6 (by decide)).trans ((hf4 6 (by decide)).trans ((hf3 6 (by decide)).trans ((hf2 6 (by decide)).trans (g6)))), (hf5 7 (by decide)).trans ((hf4 7 (by decide)).trans ((hf3 7 (by decide)).trans ((hf2 7 (by decide)).trans (g7)))), (hf5 8 (by decide)).trans ((hf4 8 (by decide)).trans ((hf3 8 (by decide)).trans ((hf2 8 (by decide)).trans (g8)))), (hf5 9 (by decide)).trans ((hf4 9 (by decide)).trans ((hf3 9 (by decide)).trans ((hf2 9 (by decide)).trans (g9)))), (hf5 11 (by decide)).trans ((hf4 11 (by decide)).trans ((hf3 11 (by decide)).trans ((hf2 11 (by decide)).trans (g11)))), (hf5 12 (by decide)).trans ((hf4 12 (by decide)).trans ((hf3 12 (by decide)).trans (g12.trans (ruO_ad c3)))), (hf5 13 (by decide)).trans ((hf4 13 (by decide)).trans ((hf3 13 (by decide)).trans (g13))), (hf5 14 (by decide)).trans ((hf4 14 (by decide)).trans ((hf3 14 (by decide)).trans (g14))), (hf5 15 (by decide)).trans ((hf4 15 (by decide)).trans ((hf3 15 (by decide)).trans (g15))), (hf5 16 (by decide)).trans ((hf4 16 (by decide)).trans ((hf3 16 (by decide)).trans (g16))), (hf5 17 (by decide)).trans ((hf4 17 (by decide)).trans ((hf3 17 (by decide)).trans (g17))), (hf5 19 (by decide)).trans ((hf4 19 (by decide)).trans (g19.trans (rnO_ad c4))), (hf5 20 (by decide)).trans ((hf4 20 (by decide)).trans (g20)), (hf5 21 (by decide)).trans ((hf4 21 (by decide)).trans (g21)), (hf5 22 (by decide)).trans ((hf4 22 (by decide)).trans (g22)), (hf5 23 (by decide)).trans ((hf4 23 (by decide)).trans (g23)), (hf5 24 (by decide)).trans ((hf4 24 (by decide)).trans (g24)), (hf5 25 (by decide)).trans (g25.trans (roO_ad (c5 26 (by decide)))), (hf5 26 (by decide)).trans (g26), g27, g28, ⟨ff10, (hf5 10 (by decide)).trans ((hf4 10 (by decide)).trans ((hf3 10 (by decide)).trans ((hf2 10 (by decide)).trans (g10)))), g10v, g10w⟩, ⟨ff18, (hf5 18 (by decide)).trans ((hf4 18 (by decide)).trans ((hf3 18 (by decide)).trans (g18))), g18v, g18w⟩⟩ (by decide) (by decide) d_RS_init_77
