set_option maxHeartbeats 4000000 in
set_option maxRecDepth 100000 in
theorem m_Md_replace {L : Launch} {D : va_G} {cA : Nat → ClassId} {base : Nat} {ad : Nat → Nat} {w : Nat → va_E} {S S0 : xS} {ru ro sp nr ns th : Int} {se so : Bool} (hMT : MT ad cA w S0 ru ro sp nr ns th se false so) (hT : Tb S) (hT0 : Tb S0) (hx0 : xt S S0) {t : Nat} (ht : t < sN S) {q0 : List (Nat × Bool × Nat)} {x0 p0 : Nat} (hPT : PT S t q0 x0 p0) {Z g : Nat → Int} (hw44 : w 44 = xIA (cA 0) 1001 Z) (hDZ : DN Z (lyS S t)) (hw45 : w 45 = xIA (cA 0) 1001 g) (hARD : ARD S t g (lyS S t).length) {v0 : Int} (hv : 0 ≤ v0 ∧ v0 < sN S0) : XM L D cA base y_Md_replace c_Md_replace 8 (some .int) (xrm 2 0 0) [.ref (ad 29), .int (zI (p0 : Int)), .int (zI v0)] 56 ad w (xRet 56 ad (fun z w' => ∃ S' : xS, (z, S') = upP S q0 v0 S0 ∧ MT ad cA w' S' ru ro sp nr ns th se (decide (z < 0)) so ∧ ∀ k, (k < 29 ∨ 36 < k) → w' k = w k)) xF := by
  refine xm_of (by decide +kernel) (by simp [Value.category]) (Nat.le_of_ble_eq_true rfl) (fun G C E _ => ?_)
  have hN := hT.1
  have hlen := lyS_len hT ht
  have hpl9 := (hT.2.1 t ht).2.2.2.2.2
  have F : ∀ (S1 : xS) (w1 : Nat → va_E) (at9 : Nat) (lv : Nat → Option Value), MT ad cA w1 S1 ru ro sp nr ns th se true so → (-1, S1) = upP S q0 v0 S0 → (∀ k, (k < 29 ∨ 36 < k) → w1 k = w k) → at9 < 1001 → -1 ≤ g at9 ∧ g at9 ≤ 1001 → lv 0 = some (.ref (ad 29)) → lv 3 = some (.int (zI (-1))) → lv 4 = some (.int (zI (at9 : Int))) → XW G 56 ad w1 0 0 5 lv [] := by
    intro S1 w1 at9 lv hMT1 hres hfr h9 hg9 hq0 hq3 hq4
    obtain ⟨sg, fs, sn, wt, pl, dp, ho, hw29, hw30, hw31, hw32, hw33, hw34, hw35, hw36, hA⟩ := id hMT1
    have hw45 := (hfr 45 (by omega)).trans hw45
    refine xr_aload_n C 0 d_Md_replace_5 rfl hq0 ?_
    refine xr_get (k := 29) C xg_Md_56 hw29 (by decide) rfl d_Md_replace_6 ?_
    refine xr_iload C d_Md_replace_9 hq4 ?_
    refine xj_iald (k := 45) C (at9) (by omega) hw45 (by decide) (by omega) (by decide) d_Md_replace_11 ?_
    refine xr_iconst C d_Md_replace_12 ?_
    refine xz_icmp_eq (tgt := 108) C d_Md_replace_13 (by decide) (by omega) (by omega) (fun c13 => ?_) (fun c13 => ?_)
    · skip
      refine xr_iload_n C 3 d_Md_replace_108 rfl hq3 ?_
      exact xr_iret C E ⟨rfl, rfl, _, rfl, S1, hres, hMT1, hfr⟩ (by decide) (by decide) d_Md_replace_109
    · skip
      refine xr_aload_n C 0 d_Md_replace_16 rfl hq0 ?_
      refine xr_get (k := 29) C xg_Md_97 hw29 (by decide) rfl d_Md_replace_17 ?_
      refine xb_if_ne (tgt := 108) C d_Md_replace_20 (by decide)  (fun c20 => ?_) (fun c20 => by exfalso; exact absurd c20 (by decide))
      refine xr_iload_n C 3 d_Md_replace_108 rfl hq3 ?_
      exact xr_iret C E ⟨rfl, rfl, _, rfl, S1, hres, hMT1, hfr⟩ (by decide) (by decide) d_Md_replace_109
  have lp : ∀ (q : List (Nat × Bool × Nat)) (x pos : Nat) (S1 : xS) (v : Int) (w1 : Nat → va_E) (lv : Nat → Option Value), PT S t q x pos → Tb S1 → xt S S1 → MT ad cA w1 S1 ru ro sp nr ns th se false so → 0 ≤ v → v < sN S1 → upP S q v S1 = upP S q0 v0 S0 → (∀ k, (k < 29 ∨ 36 < k) → w1 k = w k) → lv 0 = some (.ref (ad 29)) → lv 3 = some (.int (zI v)) → lv 4 = some (.int (zI (pos : Int))) → XW G 56 ad w1 0 0 5 lv [] := by
    intro q
    induction q with
    | nil =>
      intro x pos S1 v w1 lv hPT hT1 hx1 hMT1 hv hvN hres hfr hq0 hq3 hq4
      obtain ⟨sg, fs, sn, wt, pl, dp, ho, hw29, hw30, hw31, hw32, hw33, hw34, hw35, hw36, hA⟩ := id hMT1
      have hw45 := (hfr 45 (by omega)).trans hw45
      have hp0 : pos = 0 := hPT.2
      subst hp0
      have hg0 := hARD.1
      refine xr_aload_n C 0 d_Md_replace_5 rfl hq0 ?_
      refine xr_get (k := 29) C xg_Md_56 hw29 (by decide) rfl d_Md_replace_6 ?_
      refine xr_iload C d_Md_replace_9 hq4 ?_
      refine xj_iald (k := 45) C (0) (by omega) hw45 (by decide) (by omega) (by decide) d_Md_replace_11 ?_
      refine xr_iconst C d_Md_replace_12 ?_
      refine xz_icmp_eq (tgt := 108) C d_Md_replace_13 (by decide) (by omega) (by omega) (fun c13 => ?_) (fun c13 => by exfalso; omega)
      refine xr_iload_n C 3 d_Md_replace_108 rfl hq3 ?_
      exact xr_iret C E ⟨rfl, rfl, _, rfl, S1, hres, by rw [decide_eq_false (by omega)]; exact hMT1, hfr⟩ (by decide) (by decide) d_Md_replace_109
    | cons a q ih =>
      obtain ⟨y, b, k⟩ := a
      intro x pos S1 v w1 lv hPT hT1 hx1 hMT1 hv hvN hres hfr hq0 hq3 hq4
      obtain ⟨sg, fs, sn, wt, pl, dp, ho, hw29, hw30, hw31, hw32, hw33, hw34, hw35, hw36, hA⟩ := id hMT1
      have hw44 := (hfr 44 (by omega)).trans hw44
      have hw45 := (hfr 45 (by omega)).trans hw45
      have hy := (PT_lt hT ht q y k hPT.1).1
      have hNN := hx1.1
      have hN1 := hT1.1
      have hgk := ard_pt hT ht hARD hPT
      have hyk := PT_at hT ht hPT.1
      have hyx := PT_at hT ht hPT
      have hkl := (List.getElem?_eq_some_iff.mp hyk).1
      have hpl := (List.getElem?_eq_some_iff.mp hyx).1
      obtain ⟨m1, m2, m3, -⟩ := hA.1 y (by omega)
      obtain ⟨t1, t2, t3, -⟩ := hx1.2 y hy
      rw [t1] at m1
      rw [t2] at m2
      rw [t3] at m3
      have r9 := hA.2 y
      have hly := ly_pos S (sFs S y).toNat
      have hgb : -1 ≤ g k ∧ g k ≤ 1001 := by
        cases q with
        | nil =>
          have : k = 0 := hPT.1.2
          rw [this, hARD.1]
          omega
        | cons a9 q9 =>
          obtain ⟨y9, b9, k9⟩ := a9
          have h9 := ard_pt hT ht hARD hPT.1
          have := (List.getElem?_eq_some_iff.mp (PT_at hT ht hPT.1.1)).1
          omega
      have hsh := PT_shp hT hx1 ht hPT (t := v) ⟨hv, hvN⟩
      have hPc := hPT.2.2
      cases b with
      | false =>
        simp only [Bool.false_eq_true, if_false] at hsh
        have hpos : pos = k + 1 := by
          rcases hPc with ⟨-, -, e⟩ | ⟨e, -⟩
          · exact e
          · cases e
        refine xr_aload_n C 0 d_Md_replace_5 rfl hq0 ?_
        refine xr_get (k := 29) C xg_Md_56 hw29 (by decide) rfl d_Md_replace_6 ?_
        refine xr_iload C d_Md_replace_9 hq4 ?_
        refine xj_iald (k := 45) C (pos) (by omega) hw45 (by decide) (by omega) (by decide) d_Md_replace_11 ?_
        refine xr_eqz (y := (k : Int)) hgk ?_
        refine xr_iconst C d_Md_replace_12 ?_
        refine xz_icmp_eq (tgt := 108) C d_Md_replace_13 (by decide) (by omega) (by omega) (fun c13 => by exfalso; omega) (fun c13 => ?_)
        refine xr_aload_n C 0 d_Md_replace_16 rfl hq0 ?_
        refine xr_get (k := 29) C xg_Md_97 hw29 (by decide) rfl d_Md_replace_17 ?_
        refine xb_if_ne (tgt := 108) C d_Md_replace_20 (by decide)  (fun c20 => by exfalso; exact absurd c20 (by decide)) (fun c20 => ?_)
        refine xr_aload_n C 0 d_Md_replace_23 rfl hq0 ?_
        refine xr_get (k := 29) C xg_Md_56 hw29 (by decide) rfl d_Md_replace_24 ?_
        refine xr_iload C d_Md_replace_27 hq4 ?_
        refine xj_iald (k := 45) C (pos) (by omega) hw45 (by decide) (by omega) (by decide) d_Md_replace_29 ?_
        refine xr_eqz (y := (k : Int)) hgk ?_
        refine xr_istore C d_Md_replace_30 (by decide) ?_
        refine xr_aload_n C 0 d_Md_replace_32 rfl hq0 ?_
        refine xr_get (k := 29) C xg_Md_53 hw29 (by decide) rfl d_Md_replace_33 ?_
        refine xr_iload C d_Md_replace_36 rfl ?_
        refine xj_iald (k := 44) C (k) (by omega) hw44 (by decide) (by omega) (by decide) d_Md_replace_38 ?_
        refine xr_eqz (y := (y : Int)) (hDZ k y hyk) ?_
        refine xr_istore C d_Md_replace_39 (by decide) ?_
        refine xr_iload C d_Md_replace_41 hq4 ?_
        refine xr_iload C d_Md_replace_43 rfl ?_
        refine xr_iconst C d_Md_replace_45 ?_
        refine xz_iadd C d_Md_replace_46 ?_
        refine xz_icmp_ne (tgt := 54) C d_Md_replace_47 (by decide) (by omega) (by omega) (fun c47 => by exfalso; omega) (fun c47 => ?_)
        refine xr_iconst C d_Md_replace_50 ?_
        refine xr_goto (tgt := 55) C d_Md_replace_51 (by decide) ?_
        refine xr_istore C d_Md_replace_55 (by decide) ?_
        refine xr_aload_n C 0 d_Md_replace_57 rfl hq0 ?_
        refine xr_aload_n C 0 d_Md_replace_58 rfl hq0 ?_
        refine xr_get (k := 29) C xg_Md_7 hw29 (by decide) rfl d_Md_replace_59 ?_
        refine xr_iload C d_Md_replace_62 rfl ?_
        refine xj_iald (k := 30) C (y) (by omega) hw30 (by decide) (by omega) (by decide) d_Md_replace_64 ?_
        refine xr_eqz (y := sSg S y) m1 ?_
        refine xr_iload C d_Md_replace_65 rfl ?_
        refine xz_if_eq (tgt := 74) C d_Md_replace_67 (by decide) (by omega) (fun c67 => by exfalso; omega) (fun c67 => ?_)
        refine xr_iload_n C 3 d_Md_replace_70 rfl hq3 ?_
        refine xr_goto (tgt := 81) C d_Md_replace_71 (by decide) ?_
        refine xr_iload C d_Md_replace_81 rfl ?_
        refine xz_if_eq (tgt := 96) C d_Md_replace_83 (by decide) (by omega) (fun c83 => by exfalso; omega) (fun c83 => ?_)
        refine xr_aload_n C 0 d_Md_replace_86 rfl hq0 ?_
        refine xr_get (k := 29) C xg_Md_16 hw29 (by decide) rfl d_Md_replace_87 ?_
        refine xr_iload C d_Md_replace_90 rfl ?_
        refine xj_iald (k := 32) C (y) (by omega) hw32 (by decide) (by omega) (by decide) d_Md_replace_92 ?_
        refine xr_eqz (y := sSn S y) m3 ?_
        refine xr_goto (tgt := 97) C d_Md_replace_93 (by decide) ?_
        refine xr_callV (k9 := 29) C (m_Md_tree (s := sSg S y) (a := v) (b := sSn S y) hMT1 hT1 hsh) xm_Md_101 x2_Md_tree hw29 (by decide) rfl (by decide) (by decide) (Nat.le_of_ble_eq_true rfl) rfl d_Md_replace_97 (fun En n9 ad9 w9 hx9 => hx9.elim) (fun v n9 ad9 w9 hp => ?_)
        obtain ⟨rfl, rfl, z, rfl, S2, e2, hMT2, hfr2⟩ := hp
        obtain ⟨hT2, hz2, hz2N, -⟩ := mkT_pos hT1 hsh e2
        have e9 : (z, S2) = mkT S1 (sSg S y) (if false then sFs S y else v) (if false then v else sSn S y) := by simpa using e2
        rw [Bool.false_or] at hMT2
        show XW _ _ _ _ _ _ 100 _ (_ :: _)
        refine xr_istore_n C 3 d_Md_replace_100 rfl (by decide) ?_
        refine xr_iload C d_Md_replace_101 rfl ?_
        refine xr_istore C d_Md_replace_103 (by decide) ?_
        refine xr_goto (tgt := 5) C d_Md_replace_105 (by decide) ?_
        by_cases hz : z < 0
        · rw [decide_eq_true hz] at hMT2
          have hz1 : z = -1 := by omega
          subst hz1
          exact F S2 _ k _ hMT2 (by rw [← hres, up_f e9 (by omega)]) (fun j a => (hfr2 j a).trans (hfr j a)) (by omega) hgb hq0 rfl rfl
        · rw [decide_eq_false hz] at hMT2
          exact ih y k S2 z _ _ hPT.1 hT2 (xt_trans hx1 (mkT_xt e2)) hMT2 (by omega) hz2N (by rw [← hres, up_g e9 hz]) (fun j a => (hfr2 j a).trans (hfr j a)) hq0 rfl rfl
      | true =>
        simp only [if_true] at hsh
        have hpos : pos = k + 1 + (lyS S (sFs S y).toNat).length := by
          rcases hPc with ⟨e, -⟩ | ⟨-, -, -, e⟩
          · cases e
          · exact e
        refine xr_aload_n C 0 d_Md_replace_5 rfl hq0 ?_
        refine xr_get (k := 29) C xg_Md_56 hw29 (by decide) rfl d_Md_replace_6 ?_
        refine xr_iload C d_Md_replace_9 hq4 ?_
        refine xj_iald (k := 45) C (pos) (by omega) hw45 (by decide) (by omega) (by decide) d_Md_replace_11 ?_
        refine xr_eqz (y := (k : Int)) hgk ?_
        refine xr_iconst C d_Md_replace_12 ?_
        refine xz_icmp_eq (tgt := 108) C d_Md_replace_13 (by decide) (by omega) (by omega) (fun c13 => by exfalso; omega) (fun c13 => ?_)
        refine xr_aload_n C 0 d_Md_replace_16 rfl hq0 ?_
        refine xr_get (k := 29) C xg_Md_97 hw29 (by decide) rfl d_Md_replace_17 ?_
        refine xb_if_ne (tgt := 108) C d_Md_replace_20 (by decide)  (fun c20 => by exfalso; exact absurd c20 (by decide)) (fun c20 => ?_)
        refine xr_aload_n C 0 d_Md_replace_23 rfl hq0 ?_
        refine xr_get (k := 29) C xg_Md_56 hw29 (by decide) rfl d_Md_replace_24 ?_
        refine xr_iload C d_Md_replace_27 hq4 ?_
        refine xj_iald (k := 45) C (pos) (by omega) hw45 (by decide) (by omega) (by decide) d_Md_replace_29 ?_
        refine xr_eqz (y := (k : Int)) hgk ?_
        refine xr_istore C d_Md_replace_30 (by decide) ?_
        refine xr_aload_n C 0 d_Md_replace_32 rfl hq0 ?_
        refine xr_get (k := 29) C xg_Md_53 hw29 (by decide) rfl d_Md_replace_33 ?_
        refine xr_iload C d_Md_replace_36 rfl ?_
        refine xj_iald (k := 44) C (k) (by omega) hw44 (by decide) (by omega) (by decide) d_Md_replace_38 ?_
        refine xr_eqz (y := (y : Int)) (hDZ k y hyk) ?_
        refine xr_istore C d_Md_replace_39 (by decide) ?_
        refine xr_iload C d_Md_replace_41 hq4 ?_
        refine xr_iload C d_Md_replace_43 rfl ?_
        refine xr_iconst C d_Md_replace_45 ?_
        refine xz_iadd C d_Md_replace_46 ?_
        refine xz_icmp_ne (tgt := 54) C d_Md_replace_47 (by decide) (by omega) (by omega) (fun c47 => ?_) (fun c47 => by exfalso; omega)
        refine xr_iconst C d_Md_replace_54 ?_
        refine xr_istore C d_Md_replace_55 (by decide) ?_
        refine xr_aload_n C 0 d_Md_replace_57 rfl hq0 ?_
        refine xr_aload_n C 0 d_Md_replace_58 rfl hq0 ?_
        refine xr_get (k := 29) C xg_Md_7 hw29 (by decide) rfl d_Md_replace_59 ?_
        refine xr_iload C d_Md_replace_62 rfl ?_
        refine xj_iald (k := 30) C (y) (by omega) hw30 (by decide) (by omega) (by decide) d_Md_replace_64 ?_
        refine xr_eqz (y := sSg S y) m1 ?_
        refine xr_iload C d_Md_replace_65 rfl ?_
        refine xz_if_eq (tgt := 74) C d_Md_replace_67 (by decide) (by omega) (fun c67 => ?_) (fun c67 => by exfalso; omega)
        refine xr_aload_n C 0 d_Md_replace_74 rfl hq0 ?_
        refine xr_get (k := 29) C xg_Md_13 hw29 (by decide) rfl d_Md_replace_75 ?_
        refine xr_iload C d_Md_replace_78 rfl ?_
        refine xj_iald (k := 31) C (y) (by omega) hw31 (by decide) (by omega) (by decide) d_Md_replace_80 ?_
        refine xr_eqz (y := sFs S y) m2 ?_
        refine xr_iload C d_Md_replace_81 rfl ?_
        refine xz_if_eq (tgt := 96) C d_Md_replace_83 (by decide) (by omega) (fun c83 => ?_) (fun c83 => by exfalso; omega)
        refine xr_iload_n C 3 d_Md_replace_96 rfl hq3 ?_
        refine xr_callV (k9 := 29) C (m_Md_tree (s := sSg S y) (a := sFs S y) (b := v) hMT1 hT1 hsh) xm_Md_101 x2_Md_tree hw29 (by decide) rfl (by decide) (by decide) (Nat.le_of_ble_eq_true rfl) rfl d_Md_replace_97 (fun En n9 ad9 w9 hx9 => hx9.elim) (fun v n9 ad9 w9 hp => ?_)
        obtain ⟨rfl, rfl, z, rfl, S2, e2, hMT2, hfr2⟩ := hp
        obtain ⟨hT2, hz2, hz2N, -⟩ := mkT_pos hT1 hsh e2
        have e9 : (z, S2) = mkT S1 (sSg S y) (if true then sFs S y else v) (if true then v else sSn S y) := by simpa using e2
        rw [Bool.false_or] at hMT2
        show XW _ _ _ _ _ _ 100 _ (_ :: _)
        refine xr_istore_n C 3 d_Md_replace_100 rfl (by decide) ?_
        refine xr_iload C d_Md_replace_101 rfl ?_
        refine xr_istore C d_Md_replace_103 (by decide) ?_
        refine xr_goto (tgt := 5) C d_Md_replace_105 (by decide) ?_
        by_cases hz : z < 0
        · rw [decide_eq_true hz] at hMT2
          have hz1 : z = -1 := by omega
          subst hz1
          exact F S2 _ k _ hMT2 (by rw [← hres, up_f e9 (by omega)]) (fun j a => (hfr2 j a).trans (hfr j a)) (by omega) hgb hq0 rfl rfl
        · rw [decide_eq_false hz] at hMT2
          exact ih y k S2 z _ _ hPT.1 hT2 (xt_trans hx1 (mkT_xt e2)) hMT2 (by omega) hz2N (by rw [← hres, up_g e9 hz]) (fun j a => (hfr2 j a).trans (hfr j a)) hq0 rfl rfl
  refine xr_iload_n C 2 d_Md_replace_0 rfl rfl ?_
  refine xr_istore_n C 3 d_Md_replace_1 rfl (by decide) ?_
  refine xr_iload_n C 1 d_Md_replace_2 rfl rfl ?_
  refine xr_istore C d_Md_replace_3 (by decide) ?_
  exact lp q0 x0 p0 S0 v0 _ _ hPT hT0 hx0 hMT hv.1 hv.2 rfl (fun k _ => rfl) rfl rfl rfl
set_option maxHeartbeats 4000000 in
set_option maxRecDepth 100000 in
theorem m_Md_keep {L : Launch} {D : va_G} {cA : Nat → ClassId} {base : Nat} {ad : Nat → Nat} {w : Nat → va_E} {S : xS} {acc : List (Nat × Nat × Nat × Nat)} {ru ro sp th : Int} {se fa so : Bool} (hMT : MT ad cA w S ru ro sp ((min 200 acc.length : Nat) : Int) (acc.length : Int) th se fa so) (hal : acc.length ≤ 1000) {f : Nat → Int} (hw43 : w 43 = xIA (cA 0) 800 f) (hRW : RWS f acc) {r p a b : Nat} : XM L D cA base y_Md_keep c_Md_keep 5 none (xrm 0 0 0) [.ref (ad 29), .int (zI (r : Int)), .int (zI (p : Int)), .int (zI (a : Int)), .int (zI (b : Int))] 56 ad w (xVoid 56 ad (fun w' => MT ad cA w' S ru ro sp ((min 200 (acc ++ [(r, p, a, b)]).length : Nat) : Int) ((acc ++ [(r, p, a, b)]).length : Int) th se fa so ∧ ∃ f' : Nat → Int, w' 43 = xIA (cA 0) 800 f' ∧ RWS f' (acc ++ [(r, p, a, b)]) ∧ ∀ k, k ≠ 29 → k ≠ 43 → w' k = w k)) xF := by
  refine xm_of (by decide +kernel) (by simp [Value.category]) (Nat.le_of_ble_eq_true rfl) (fun G C E _ => ?_)
  obtain ⟨sg, fs, sn, wt, pl, dp, ho, hw29, hw30, hw31, hw32, hw33, hw34, hw35, hw36, hA⟩ := hMT
  refine xr_aload_n C 0 d_Md_keep_0 rfl rfl ?_
  refine xr_dup C rfl d_Md_keep_1 ?_
  refine xr_get (k := 29) C xg_Md_147 hw29 (by decide) rfl d_Md_keep_2 ?_
  refine xr_iconst C d_Md_keep_5 ?_
  refine xz_iadd C d_Md_keep_6 ?_
  refine xr_put (k := 29) C xf_Md_147 hw29 (by decide) rfl rfl (Nat.le_of_ble_eq_true rfl) d_Md_keep_7 ?_
  refine xr_aload_n C 0 d_Md_keep_10 rfl rfl ?_
  refine xr_get (k := 29) C xg_Md_150 rfl (by decide) rfl d_Md_keep_11 ?_
  refine xr_sipush C d_Md_keep_14 (by decide) ?_
  refine xz_icmp_ne (tgt := 21) C d_Md_keep_17 (by decide) (by omega) (by omega) (fun c17 => ?_) (fun c17 => ?_)
  · skip
    refine xr_aload_n C 0 d_Md_keep_21 rfl rfl ?_
    refine xr_get (k := 29) C xg_Md_50 rfl (by decide) rfl d_Md_keep_22 ?_
    refine xr_iconst C d_Md_keep_25 ?_
    refine xr_aload_n C 0 d_Md_keep_26 rfl rfl ?_
    refine xr_get (k := 29) C xg_Md_150 rfl (by decide) rfl d_Md_keep_27 ?_
    refine xz_imul C d_Md_keep_30 ?_
    refine xr_iload_n C 1 d_Md_keep_31 rfl rfl ?_
    refine xj_iast (k := 43) C (min 200 acc.length * 4) (by omega) hw43 (by decide) (by omega) (by decide) d_Md_keep_32 ?_
    refine xr_aload_n C 0 d_Md_keep_33 rfl rfl ?_
    refine xr_get (k := 29) C xg_Md_50 rfl (by decide) rfl d_Md_keep_34 ?_
    refine xr_iconst C d_Md_keep_37 ?_
    refine xr_aload_n C 0 d_Md_keep_38 rfl rfl ?_
    refine xr_get (k := 29) C xg_Md_150 rfl (by decide) rfl d_Md_keep_39 ?_
    refine xz_imul C d_Md_keep_42 ?_
    refine xr_iconst C d_Md_keep_43 ?_
    refine xz_iadd C d_Md_keep_44 ?_
    refine xr_iload_n C 2 d_Md_keep_45 rfl rfl ?_
    refine xj_iast (k := 43) C (min 200 acc.length * 4 + 1) (by omega) rfl (by decide) (by omega) (by decide) d_Md_keep_46 ?_
    refine xr_aload_n C 0 d_Md_keep_47 rfl rfl ?_
    refine xr_get (k := 29) C xg_Md_50 rfl (by decide) rfl d_Md_keep_48 ?_
    refine xr_iconst C d_Md_keep_51 ?_
    refine xr_aload_n C 0 d_Md_keep_52 rfl rfl ?_
    refine xr_get (k := 29) C xg_Md_150 rfl (by decide) rfl d_Md_keep_53 ?_
    refine xz_imul C d_Md_keep_56 ?_
    refine xr_iconst C d_Md_keep_57 ?_
    refine xz_iadd C d_Md_keep_58 ?_
    refine xr_iload_n C 3 d_Md_keep_59 rfl rfl ?_
    refine xj_iast (k := 43) C (min 200 acc.length * 4 + 2) (by omega) rfl (by decide) (by omega) (by decide) d_Md_keep_60 ?_
    refine xr_aload_n C 0 d_Md_keep_61 rfl rfl ?_
    refine xr_get (k := 29) C xg_Md_50 rfl (by decide) rfl d_Md_keep_62 ?_
    refine xr_iconst C d_Md_keep_65 ?_
    refine xr_aload_n C 0 d_Md_keep_66 rfl rfl ?_
    refine xr_get (k := 29) C xg_Md_150 rfl (by decide) rfl d_Md_keep_67 ?_
    refine xz_imul C d_Md_keep_70 ?_
    refine xr_iconst C d_Md_keep_71 ?_
    refine xz_iadd C d_Md_keep_72 ?_
    refine xr_iload C d_Md_keep_73 rfl ?_
    refine xj_iast (k := 43) C (min 200 acc.length * 4 + 3) (by omega) rfl (by decide) (by omega) (by decide) d_Md_keep_75 ?_
    refine xr_aload_n C 0 d_Md_keep_76 rfl rfl ?_
    refine xr_dup C rfl d_Md_keep_77 ?_
    refine xr_get (k := 29) C xg_Md_150 rfl (by decide) rfl d_Md_keep_78 ?_
    refine xr_iconst C d_Md_keep_81 ?_
    refine xz_iadd C d_Md_keep_82 ?_
    refine xr_put (k := 29) C xf_Md_150 rfl (by decide) rfl rfl (Nat.le_of_ble_eq_true rfl) d_Md_keep_83 ?_
    exact xr_vret C E ⟨rfl, rfl, rfl, ⟨sg, fs, sn, wt, pl, dp, ho, by rw [show ((min 200 (acc ++ [(r, p, a, b)]).length : Nat) : Int) = ((min 200 acc.length : Nat) : Int) + 1 by rw [List.length_append, List.length_singleton]; omega, show ((acc ++ [(r, p, a, b)]).length : Int) = (acc.length : Int) + 1 by rw [List.length_append, List.length_singleton]; omega]; rfl, hw30, hw31, hw32, hw33, hw34, hw35, hw36, hA⟩, _, rfl, by rw [show min 200 acc.length = acc.length by omega]; exact RWS_add hRW (by omega), fun k x y => (va_ne x).trans ((va_ne y).trans ((va_ne y).trans ((va_ne y).trans ((va_ne y).trans (va_ne x)))))⟩ (by decide) (by decide) d_Md_keep_86
  · skip
    exact xr_vret C E ⟨rfl, rfl, rfl, ⟨sg, fs, sn, wt, pl, dp, ho, by rw [show ((min 200 (acc ++ [(r, p, a, b)]).length : Nat) : Int) = ((min 200 acc.length : Nat) : Int) by rw [List.length_append, List.length_singleton]; omega, show ((acc ++ [(r, p, a, b)]).length : Int) = (acc.length : Int) + 1 by rw [List.length_append, List.length_singleton]; omega]; rfl, hw30, hw31, hw32, hw33, hw34, hw35, hw36, hA⟩, f, hw43, RWS_full hRW (by omega), fun k x y => va_ne x⟩ (by decide) (by decide) d_Md_keep_20
set_option maxHeartbeats 4000000 in
set_option maxRecDepth 100000 in
theorem m_Md_take {L : Launch} {D : va_G} {cA : Nat → ClassId} {base : Nat} {ad : Nat → Nat} {w : Nat → va_E} {S : xS} {n : Nat} (hn : n ≤ 200) {ru ro sp ns th : Int} {se fa so : Bool} (hMT : MT ad cA w S ru ro sp (n : Int) ns th se fa so) {f0 g : Nat → Int} (hw42 : w 42 = xIA (cA 0) 800 f0) (hw43 : w 43 = xIA (cA 0) 800 g) : XM L D cA base y_Md_take c_Md_take 2 none (xrm 0 0 0) [.ref (ad 29)] 56 ad w (xVoid 56 ad (fun w' => MT ad cA w' S ru (n : Int) ns (n : Int) ns th se fa so ∧ ∃ f : Nat → Int, w' 42 = xIA (cA 0) 800 f ∧ (∀ j, j < 4 * n → f j = g j) ∧ ∀ k, k ≠ 29 → k ≠ 42 → w' k = w k)) xF := by
  refine xm_of (by decide +kernel) (by simp [Value.category]) (Nat.le_of_ble_eq_true rfl) (fun G C E _ => ?_)
  obtain ⟨sg, fs, sn, wt, pl, dp, ho, hw29, hw30, hw31, hw32, hw33, hw34, hw35, hw36, hA⟩ := hMT
  have lp : ∀ (m i : Nat) (w1 : Nat → va_E) (f : Nat → Int) (lv : Nat → Option Value), 4 * n + 1 ≤ i + m → i ≤ 4 * n → w1 42 = xIA (cA 0) 800 f → (∀ j, j < i → f j = g j) → (∀ k, k ≠ 42 → w1 k = w k) → lv 0 = some (.ref (ad 29)) → lv 1 = some (.int (zI (i : Int))) → XW G 56 ad w1 0 0 2 lv [] := by
    intro m
    induction m with
    | zero => intro i w1 f lv h1 h2; exact absurd h1 (by omega)
    | succ m ih =>
      intro i w1 f lv h1 h2 hw42 hf hfr hq0 hq1
      have hw29 := (hfr 29 (by decide)).trans hw29
      have hw30 := (hfr 30 (by decide)).trans hw30
      have hw31 := (hfr 31 (by decide)).trans hw31
      have hw32 := (hfr 32 (by decide)).trans hw32
      have hw33 := (hfr 33 (by decide)).trans hw33
      have hw34 := (hfr 34 (by decide)).trans hw34
      have hw35 := (hfr 35 (by decide)).trans hw35
      have hw36 := (hfr 36 (by decide)).trans hw36
      have hw43 := (hfr 43 (by decide)).trans hw43
      refine xr_iload_n C 1 d_Md_take_2 rfl hq1 ?_
      refine xr_iconst C d_Md_take_3 ?_
      refine xr_aload_n C 0 d_Md_take_4 rfl hq0 ?_
      refine xr_get (k := 29) C xg_Md_150 hw29 (by decide) rfl d_Md_take_5 ?_
      refine xz_imul C d_Md_take_8 ?_
      refine xz_icmp_ge (tgt := 30) C d_Md_take_9 (by decide) (by omega) (by omega) (fun c9 => ?_) (fun c9 => ?_)
      · skip
        refine xr_aload_n C 0 d_Md_take_30 rfl hq0 ?_
        refine xr_aload_n C 0 d_Md_take_31 rfl hq0 ?_
        refine xr_get (k := 29) C xg_Md_150 hw29 (by decide) rfl d_Md_take_32 ?_
        refine xr_put (k := 29) C xf_Md_170 hw29 (by decide) rfl rfl (Nat.le_of_ble_eq_true rfl) d_Md_take_35 ?_
        refine xr_aload_n C 0 d_Md_take_38 rfl hq0 ?_
        refine xr_aload_n C 0 d_Md_take_39 rfl hq0 ?_
        refine xr_get (k := 29) C xg_Md_147 rfl (by decide) rfl d_Md_take_40 ?_
        refine xr_put (k := 29) C xf_Md_173 rfl (by decide) rfl rfl (Nat.le_of_ble_eq_true rfl) d_Md_take_43 ?_
        exact xr_vret C E ⟨rfl, rfl, rfl, ⟨sg, fs, sn, wt, pl, dp, ho, rfl, hw30, hw31, hw32, hw33, hw34, hw35, hw36, hA⟩, f, hw42, fun j hj => hf j (by omega), fun k x y => (va_ne x).trans ((va_ne x).trans (hfr k y))⟩ (by decide) (by decide) d_Md_take_46
      · skip
        refine xr_aload_n C 0 d_Md_take_12 rfl hq0 ?_
        refine xr_get (k := 29) C xg_Md_47 hw29 (by decide) rfl d_Md_take_13 ?_
        refine xr_iload_n C 1 d_Md_take_16 rfl hq1 ?_
        refine xr_aload_n C 0 d_Md_take_17 rfl hq0 ?_
        refine xr_get (k := 29) C xg_Md_50 hw29 (by decide) rfl d_Md_take_18 ?_
        refine xr_iload_n C 1 d_Md_take_21 rfl hq1 ?_
        refine xj_iald (k := 43) C (i) (by omega) hw43 (by decide) (by omega) (by decide) d_Md_take_22 ?_
        refine xj_iast (k := 42) C (i) (by omega) hw42 (by decide) (by omega) (by decide) d_Md_take_23 ?_
        refine xr_iinc C d_Md_take_24 (by decide) hq1 ?_
        refine xr_goto (tgt := 2) C d_Md_take_27 (by decide) ?_
        exact ih (i + 1) _ _ _ (by omega) (by omega) rfl (fun j hj => by
          by_cases e : j = i
          · rw [e, va_eq]
          · rw [va_ne e]; exact hf j (by omega)) (fun k x => (va_ne x).trans (hfr k x)) hq0 rfl
  refine xr_iconst C d_Md_take_0 ?_
  refine xr_istore_n C 1 d_Md_take_1 rfl (by decide) ?_
  exact lp (4 * n + 1) 0 _ f0 _ (by omega) (by omega) hw42 (fun j hj => by omega) (fun k _ => rfl) rfl rfl
