section LP
variable {G : xG} {L : Launch} {D : va_G} {cA : Nat → ClassId} {base : Nat} {ad : Nat → Nat} {b9 L9 : Nat} {xs : Nat → Int32}
set_option maxHeartbeats 4000000 in
set_option maxRecDepth 100000 in
theorem law_lp (C : XC G L D cA base c_La_law 7 R_La room_1) (hLt : L.stackTraces = false) (S9 : XSc G b9 L9 xs) (hL : L9 ≤ 2048) (hEnd : ∀ (n : Nat) (ad : Nat → Nat) (w : Nat → va_E) (a b : Nat) (lv : Nat → Option Value), a ≤ 601024 → b ≤ 7293034 → XW G n ad w a b 1301 lv [.int (zI 1)]) : ∀ (m i a b : Nat) (w : Nat → va_E) (lv : Nat → Option Value), L9 ≤ i + 4 * m + 3 → i ≤ 4000 → i + 4 * m ≤ 4000 → a + 6 * m ≤ 601024 → b + 36 * m ≤ 7293034 → JI ad cA w → lv 0 = some (.ref b9) → lv 1 = some (.ref (ad 0)) → lv 2 = some (.ref (ad 29)) → lv 3 = some (.ref (ad 55)) → lv 4 = some (.int (zI (i : Int))) → XW G 56 ad w a b 23 lv [] := by
  intro m
  induction m with
  | zero =>
    intro i a b w lv h1 h2 h3 ha hb hJ l0 l1 l2 l3 l4
    refine xr_iload C d_La_law_23 l4 ?_
    refine xr_aload_n C 0 d_La_law_25 rfl l0 ?_
    refine xr_slen C S9 d_La_law_26 ?_
    refine xr_iconst C d_La_law_27 ?_
    refine xz_isub C d_La_law_28 ?_
    refine xz_icmp_gt (tgt := 1300) C d_La_law_29 (by decide) (by omega) (by omega) (fun c => ?_) (fun c => ?_)
    · refine xr_iconst C d_La_law_1300 ?_
      exact hEnd _ _ _ _ _ _ (by omega) (by omega)
    · exfalso
      omega
  | succ m ih =>
    intro i a b w lv h1 h2 h3 ha hb hJ l0 l1 l2 l3 l4
    refine xr_iload C d_La_law_23 l4 ?_
    refine xr_aload_n C 0 d_La_law_25 rfl l0 ?_
    refine xr_slen C S9 d_La_law_26 ?_
    refine xr_iconst C d_La_law_27 ?_
    refine xz_isub C d_La_law_28 ?_
    refine xz_icmp_gt (tgt := 1300) C d_La_law_29 (by decide) (by omega) (by omega) (fun c => ?_) (fun c => ?_)
    · refine xr_iconst C d_La_law_1300 ?_
      exact hEnd _ _ _ _ _ _ (by omega) (by omega)
    · have hi : i + 4 ≤ L9 := by omega
      have hcast : ((i + 4 : Nat) : Int) = (i : Int) + 4 := by omega
      have K9 : ∀ (lv2 : Nat → Option Value) (w2 : Nat → va_E), JI ad cA w2 → lv2 0 = some (.ref b9) → lv2 1 = some (.ref (ad 0)) → lv2 2 = some (.ref (ad 29)) → lv2 3 = some (.ref (ad 55)) → lv2 4 = some (.int (zI (i : Int))) → XW G 56 ad w2 (a + 6) (b + 36) 1294 lv2 [] := by
        intro lv2 w2 hJ2 k0 k1 k2 k3 k4
        refine xr_iinc C d_La_law_1294 (by decide) k4 ?_
        refine xr_goto (tgt := 23) C d_La_law_1297 (by decide) ?_
        exact ih (i + 4) _ _ w2 _ (by omega) (by omega) (by omega) (by omega) (by omega) hJ2 ((va_ne (by decide)).trans k0) ((va_ne (by decide)).trans k1) ((va_ne (by decide)).trans k2) ((va_ne (by decide)).trans k3) (va_eq.trans (by rw [hcast]))
      have ha6 : a + 6 ≤ 601024 := by omega
      have hb6 : b + 36 ≤ 7293034 := by omega
      clear ih
      refine xr_aload_n C 0 d_La_law_32 rfl l0 ?_
      refine xr_iload C d_La_law_33 l4 ?_
      refine xr_sld C S9 (by omega) (by omega) d_La_law_35 ?_
      refine xr_bipush C d_La_law_36 (by decide) ?_
      refine xr_iand C d_La_law_38 ?_
      have hzr := zI_rng (zI (xs (i : Int).toNat).toInt &&& zI 31)
      rw [← zI_of (zI (xs (i : Int).toNat).toInt &&& zI 31)]
      generalize (zI (xs (i : Int).toNat).toInt &&& zI 31).toInt = z at hzr
      rcases (show z = 0 ∨ z = 1 ∨ z = 2 ∨ z = 3 ∨ z = 4 ∨ z = 5 ∨ z = 6 ∨ z = 7 ∨ z = 8 ∨ z = 9 ∨ z = 10 ∨ z = 11 ∨ z = 12 ∨ z = 13 ∨ z = 14 ∨ z = 15 ∨ z = 16 ∨ z = 17 ∨ z = 18 ∨ z = 19 ∨ (z < 0 ∨ 19 < z) by omega) with rfl | rfl | rfl | rfl | rfl | rfl | rfl | rfl | rfl | rfl | rfl | rfl | rfl | rfl | rfl | rfl | rfl | rfl | rfl | rfl | qd
      · refine xr_tableIn (tgt := 132) C d_La_law_39 (by decide) (by decide) rfl (by decide) ?_
        exact lc_leaf C hLt S9 hL hi hJ ha6 hb6 l0 l1 l2 l3 l4 K9
      · refine xr_tableIn (tgt := 188) C d_La_law_39 (by decide) (by decide) rfl (by decide) ?_
        exact lc_hole C hLt S9 hL hi hJ ha6 hb6 l0 l1 l2 l3 l4 K9
      · refine xr_tableIn (tgt := 244) C d_La_law_39 (by decide) (by decide) rfl (by decide) ?_
        exact lc_node C hLt S9 hL hi hJ ha6 hb6 l0 l1 l2 l3 l4 K9
      · refine xr_tableIn (tgt := 324) C d_La_law_39 (by decide) (by decide) rfl (by decide) ?_
        exact lc_rule C hLt S9 hL hi hJ ha6 hb6 l0 l1 l2 l3 l4 K9
      · refine xr_tableIn (tgt := 404) C d_La_law_39 (by decide) (by decide) rfl (by decide) ?_
        exact lc_holds C hLt S9 hL hi hJ ha6 hb6 l0 l1 l2 l3 l4 K9
      · refine xr_tableIn (tgt := 479) C d_La_law_39 (by decide) (by decide) rfl (by decide) ?_
        exact lc_choose C hLt S9 hL hi hJ ha6 hb6 l0 l1 l2 l3 l4 K9
      · refine xr_tableIn (tgt := 570) C d_La_law_39 (by decide) (by decide) rfl (by decide) ?_
        exact lc_rewrite C hLt S9 hL hi hJ ha6 hb6 l0 l1 l2 l3 l4 K9
      · refine xr_tableIn (tgt := 638) C d_La_law_39 (by decide) (by decide) rfl (by decide) ?_
        exact lc_normal C hLt S9 hL hi hJ ha6 hb6 l0 l1 l2 l3 l4 K9
      · refine xr_tableIn (tgt := 694) C d_La_law_39 (by decide) (by decide) rfl (by decide) ?_
        exact lc_joins C hLt S9 hL hi hJ ha6 hb6 l0 l1 l2 l3 l4 K9
      · refine xr_tableIn (tgt := 769) C d_La_law_39 (by decide) (by decide) rfl (by decide) ?_
        exact lc_spent C hLt S9 hL hi hJ ha6 hb6 l0 l1 l2 l3 l4 K9
      · refine xr_tableIn (tgt := 782) C d_La_law_39 (by decide) (by decide) rfl (by decide) ?_
        exact lc_row C hLt S9 hL hi hJ ha6 hb6 l0 l1 l2 l3 l4 K9
      · refine xr_tableIn (tgt := 850) C d_La_law_39 (by decide) (by decide) rfl (by decide) ?_
        exact lc_steps C hLt S9 hL hi hJ ha6 hb6 l0 l1 l2 l3 l4 K9
      · refine xr_tableIn (tgt := 863) C d_La_law_39 (by decide) (by decide) rfl (by decide) ?_
        exact lc_domain C hLt S9 hL hi hJ ha6 hb6 l0 l1 l2 l3 l4 K9
      · refine xr_tableIn (tgt := 876) C d_La_law_39 (by decide) (by decide) rfl (by decide) ?_
        exact lc_lessens C hLt S9 hL hi hJ ha6 hb6 l0 l1 l2 l3 l4 K9
      · refine xr_tableIn (tgt := 939) C d_La_law_39 (by decide) (by decide) rfl (by decide) ?_
        exact lc_usable C hLt S9 hL hi hJ ha6 hb6 l0 l1 l2 l3 l4 K9
      · refine xr_tableIn (tgt := 1002) C d_La_law_39 (by decide) (by decide) rfl (by decide) ?_
        exact lc_above C hLt S9 hL hi hJ ha6 hb6 l0 l1 l2 l3 l4 K9
      · refine xr_tableIn (tgt := 1077) C d_La_law_39 (by decide) (by decide) rfl (by decide) ?_
        exact lc_measure C hLt S9 hL hi hJ ha6 hb6 l0 l1 l2 l3 l4 K9
      · refine xr_tableIn (tgt := 1145) C d_La_law_39 (by decide) (by decide) rfl (by decide) ?_
        exact lc_at C hLt S9 hL hi hJ ha6 hb6 l0 l1 l2 l3 l4 K9
      · refine xr_tableIn (tgt := 1213) C d_La_law_39 (by decide) (by decide) rfl (by decide) ?_
        exact lc_head C hLt S9 hL hi hJ ha6 hb6 l0 l1 l2 l3 l4 K9
      · refine xr_tableIn (tgt := 1269) C d_La_law_39 (by decide) (by decide) rfl (by decide) ?_
        exact lc_count C hLt S9 hL hi hJ ha6 hb6 l0 l1 l2 l3 l4 K9
      · refine xr_tableOut (tgt := 1294) C d_La_law_39 (by rw [zI_toInt (by omega)]; omega) (by decide) ?_
        exact xr_widen (by omega) (by omega) (K9 lv w hJ l0 l1 l2 l3 l4)
end LP
