/-! the reference's walk over the places of a tree -/
abbrev lyS (S : xS) (j : Nat) : List Nat := ly (sFs S) (sSn S) j
/-- a pile, its top first, as it lies in an array -/
def TD (td : Nat → Int) : List Nat → Prop
  | [] => True
  | x :: r => td r.length = (x : Int) ∧ TD td r
theorem TD_up {td : Nat → Int} {k : Nat} {v : Int} : ∀ {r : List Nat}, TD td r → r.length ≤ k → TD (va_up td k v) r := by
  intro r
  induction r with
  | nil => intro _ _; trivial
  | cons x r ih =>
    intro h hk
    have hk : r.length + 1 ≤ k := hk
    exact ⟨by rw [va_ne (by omega)]; exact h.1, ih h.2 (by omega)⟩
/-- a row's first places -/
def DN (f : Nat → Int) (dn : List Nat) : Prop := ∀ i x : Nat, dn[i]? = some x → f i = (x : Int)
theorem DN_add {f : Nat → Int} {dn : List Nat} {x : Nat} (h : DN f dn) : DN (va_up f dn.length (x : Int)) (dn ++ [x]) := by
  intro i y hy
  by_cases hi : i < dn.length
  · rw [List.getElem?_append_left hi] at hy
    rw [va_ne (by omega)]
    exact h i y hy
  · rw [List.getElem?_append_right (by omega)] at hy
    have hz : i - dn.length < 1 := (List.getElem?_eq_some_iff.mp hy).1
    have e : i = dn.length := by omega
    subst e
    rw [Nat.sub_self] at hy
    cases hy
    rw [va_eq]
theorem ly_0 {S : xS} {x : Nat} (h : sFs S x = -1) (h2 : sSn S x = -1) : lyS S x = [x] := by
  unfold lyS
  rw [ly_eq, if_neg (by omega), if_neg (by omega)]
  rfl
theorem ly_1 {S : xS} {x : Nat} (h : 0 ≤ sFs S x ∧ sFs S x < x) (h2 : sSn S x = -1) : lyS S x = x :: lyS S (sFs S x).toNat := by
  unfold lyS
  rw [ly_eq, if_pos h, if_neg (by omega), List.append_nil]
theorem ly_2 {S : xS} {x : Nat} (h : 0 ≤ sFs S x ∧ sFs S x < x) (h2 : 0 ≤ sSn S x ∧ sSn S x < x) : lyS S x = x :: (lyS S (sFs S x).toNat ++ lyS S (sSn S x).toNat) := by
  unfold lyS
  rw [ly_eq, if_pos h, if_pos h2]
theorem ly_pos (S : xS) (x : Nat) : 1 ≤ (lyS S x).length := by
  unfold lyS
  rw [ly_eq]
  simp
theorem fl_len (S : xS) : ∀ r : List Nat, r.length ≤ (r.flatMap (lyS S)).length := by
  intro r
  induction r with
  | nil => simp
  | cons x r ih =>
    have := ly_pos S x
    rw [List.flatMap_cons, List.length_append, List.length_cons]
    omega
set_option maxHeartbeats 4000000 in
set_option maxRecDepth 100000 in
theorem m_Md_lay_44 {L : Launch} {D : va_G} {cA : Nat → ClassId} {base : Nat} {ad : Nat → Nat} {w : Nat → va_E} {S : xS} {ru ro sp nr ns th : Int} {se fa so : Bool} {t : Nat} {td0 f0 : Nat → Int} (hMT : MT ad cA w S ru ro sp nr ns th se fa so) (hT : Tb S) (ht : t < sN S) (hw47 : w 47 = xIA (cA 0) 1100 td0) (hw44 : w 44 = xIA (cA 0) 1001 f0) : XM L D cA base y_Md_lay c_Md_lay 7 (some .int) (xrm 1 0 0) [.ref (ad 29), .int (zI (t : Int)), .ref (ad 44), .int (zI (xb false))] 56 ad w (xRet 56 ad (fun z w' => z = ((lyS S t).length : Int) ∧ ∃ td f : Nat → Int, w' 47 = xIA (cA 0) 1100 td ∧ w' 44 = xIA (cA 0) 1001 f ∧ (∀ k, k ≠ 47 → k ≠ 44 → w' k = w k) ∧ DN f (lyS S t))) xF := by
  refine xm_of (by decide +kernel) (by simp [Value.category]) (Nat.le_of_ble_eq_true rfl) (fun G C E _ => ?_)
  obtain ⟨sg, fs, sn, wt, pl, dp, ho, hw29, hw30, hw31, hw32, hw33, hw34, hw35, hw36, hA⟩ := hMT
  have hlen : ((lyS S t).length : Int) = sPl S t := ly_len hT t ht
  have hpl := (hT.2.1 t ht).2.2.2.2.2
  have hN := hT.1
  have lp : ∀ (m : Nat) (w1 : Nat → va_E) (td f : Nat → Int) (stk dn : List Nat) (n h : Nat) (lv : Nat → Option Value), (stk.flatMap (lyS S)).length < m → w1 47 = xIA (cA 0) 1100 td → w1 44 = xIA (cA 0) 1001 f → (∀ k, k ≠ 47 → k ≠ 44 → w1 k = w k) → TD td stk → DN f dn → dn ++ stk.flatMap (lyS S) = lyS S t → (∀ y ∈ stk, y < sN S) → n = dn.length → h = stk.length → lv 0 = some (.ref (ad 29)) → lv 2 = some (.ref (ad 44)) → lv 3 = some (.int (zI (xb false))) → lv 4 = some (.int (zI (n : Int))) → lv 5 = some (.int (zI (h : Int))) → XW G 56 ad w1 0 0 13 lv [] := by
    intro m
    induction m with
    | zero => intro w1 td f stk dn n h lv hm; exact absurd hm (by omega)
    | succ m ih =>
      intro w1 td f stk dn n h lv hm hw47 hw44 hfr hTD hDN hcat hall hn hh hl0 hl2 hl3 hl4 hl5
      have hw29 := (hfr 29 (by decide) (by decide)).trans hw29
      have hw30 := (hfr 30 (by decide) (by decide)).trans hw30
      have hw31 := (hfr 31 (by decide) (by decide)).trans hw31
      have hw32 := (hfr 32 (by decide) (by decide)).trans hw32
      have htot : dn.length + (stk.flatMap (lyS S)).length ≤ 1000 := by
        have := congrArg List.length hcat
        rw [List.length_append] at this
        omega
      cases stk with
      | nil =>
        have hdt : dn = lyS S t := by rw [← hcat]; simp
        have hh : h = 0 := hh
        refine xr_iload C d_Md_lay_13 hl5 ?_
        refine xz_if_le (tgt := 103) C d_Md_lay_15 (by decide) (by omega) (fun c15 => ?_) (fun c15 => by exfalso; omega)
        refine xr_iload_n C 3 d_Md_lay_103 rfl hl3 ?_
        refine xb_if_eq (tgt := 113) C d_Md_lay_104 (by decide)  (fun c104 => ?_) (fun c104 => by exfalso; exact absurd c104 (by decide))
        refine xr_iload C d_Md_lay_113 hl4 ?_
        refine xr_eqz (y := ((lyS S t).length : Int)) (by rw [← hdt, hn]) ?_
        exact xr_iret C E ⟨rfl, rfl, _, rfl, rfl, td, f, hw47, hw44, hfr, by rw [← hdt]; exact hDN⟩ (by decide) (by decide) d_Md_lay_115
      | cons x r =>
        have hxN := hall x List.mem_cons_self
        have hlx := ly_pos S x
        have hlr := fl_len S r
        have hlen9 : (lyS S x).length + (r.flatMap (lyS S)).length + dn.length ≤ 1000 := by
          rw [List.flatMap_cons, List.length_append] at htot
          omega
        have hh : h = r.length + 1 := hh
        obtain ⟨q1, q2, q3, -⟩ := hA.1 x hxN
        have qs := (hT.2.1 x hxN).1
        unfold shp at qs
        rcases qs with q | q | q | q
        · skip
          refine xr_iload C d_Md_lay_13 hl5 ?_
          refine xz_if_le (tgt := 103) C d_Md_lay_15 (by decide) (by omega) (fun c15 => by exfalso; omega) (fun c15 => ?_)
          refine xr_iinc C d_Md_lay_18 (by decide) hl5 ?_
          refine xr_aload_n C 0 d_Md_lay_21 rfl hl0 ?_
          refine xr_get (k := 29) C xg_Md_62 hw29 (by decide) rfl d_Md_lay_22 ?_
          refine xr_iload C d_Md_lay_25 rfl ?_
          refine xj_iald (k := 47) C (r.length) (by omega) hw47 (by decide) (by omega) (by decide) d_Md_lay_27 ?_
          refine xr_eqz (y := (x : Int)) hTD.1 ?_
          refine xr_istore C d_Md_lay_28 (by decide) ?_
          refine xr_aload_n C 2 d_Md_lay_30 rfl hl2 ?_
          refine xr_iload C d_Md_lay_31 hl4 ?_
          refine xr_iload C d_Md_lay_33 rfl ?_
          refine xj_iast (k := 44) C (n) (by omega) hw44 (by decide) (by omega) (by decide) d_Md_lay_35 ?_
          refine xr_iinc C d_Md_lay_36 (by decide) hl4 ?_
          refine xr_aload_n C 0 d_Md_lay_39 rfl hl0 ?_
          refine xr_get (k := 29) C xg_Md_7 hw29 (by decide) rfl d_Md_lay_40 ?_
          refine xr_iload C d_Md_lay_43 rfl ?_
          refine xj_iald (k := 30) C (x) (by omega) hw30 (by decide) (by omega) (by decide) d_Md_lay_45 ?_
          refine xr_callS C (m_Md_parts (x := sg x) (by have := hA.2 x; omega)) xm_Md_93 x2_Md_parts (by decide) (by decide) (Nat.le_of_ble_eq_true rfl) rfl d_Md_lay_46 (fun En n9 ad9 w9 hx9 => hx9.elim) (fun v n9 ad9 w9 hp => ?_)
          obtain ⟨rfl, rfl, rfl, rfl⟩ := hp
          show XW _ _ _ _ _ _ 49 _ (_ :: _)
          refine xr_eqz (y := 0) (by unfold prt; rw [if_pos (by omega)]) ?_
          refine xr_iconst C d_Md_lay_49 ?_
          refine xz_icmp_ne (tgt := 70) C d_Md_lay_50 (by decide) (by omega) (by omega) (fun c50 => ?_) (fun c50 => by exfalso; omega)
          refine xr_aload_n C 0 d_Md_lay_70 rfl hl0 ?_
          refine xr_get (k := 29) C xg_Md_7 hw29 (by decide) rfl d_Md_lay_71 ?_
          refine xr_iload C d_Md_lay_74 rfl ?_
          refine xj_iald (k := 30) C (x) (by omega) hw30 (by decide) (by omega) (by decide) d_Md_lay_76 ?_
          refine xr_callS C (m_Md_parts (x := sg x) (by have := hA.2 x; omega)) xm_Md_93 x2_Md_parts (by decide) (by decide) (Nat.le_of_ble_eq_true rfl) rfl d_Md_lay_77 (fun En n9 ad9 w9 hx9 => hx9.elim) (fun v n9 ad9 w9 hp => ?_)
          obtain ⟨rfl, rfl, rfl, rfl⟩ := hp
          show XW _ _ _ _ _ _ 80 _ (_ :: _)
          refine xr_eqz (y := 0) (by unfold prt; rw [if_pos (by omega)]) ?_
          refine xz_if_le (tgt := 100) C d_Md_lay_80 (by decide) (by omega) (fun c80 => ?_) (fun c80 => by exfalso; omega)
          refine xr_goto (tgt := 13) C d_Md_lay_100 (by decide) ?_
          refine ih _ _ _ r (dn ++ [x]) (n + 1) (h - 1) _ ?_ hw47 rfl (fun k h1 h2 => (va_ne h2).trans (hfr k h1 h2)) hTD.2 (by rw [hn]; exact DN_add hDN) ?_ (fun y hy => ?_) (by rw [List.length_append, hn]; rfl) (by first | omega | (simp only [List.length_cons]; omega)) hl0 hl2 hl3 rfl (by show some (Value.int (zI ((h : Int) + -1))) = _; rw [show ((h : Int) + -1) = ((h - 1 : Nat) : Int) by omega])
          · rw [List.flatMap_cons, ly_0 (S := S) (x := x) (by omega) (by omega)] at hm
            simp only [List.flatMap_cons, List.length_append, List.length_cons, List.length_nil] at hm ⊢
            omega
          · rw [← hcat, show (x :: r).flatMap (lyS S) = lyS S x ++ r.flatMap (lyS S) from List.flatMap_cons, ly_0 (S := S) (x := x) (by omega) (by omega)]
            simp
          · exact hall y (List.mem_cons_of_mem _ hy)
        · skip
          refine xr_iload C d_Md_lay_13 hl5 ?_
          refine xz_if_le (tgt := 103) C d_Md_lay_15 (by decide) (by omega) (fun c15 => by exfalso; omega) (fun c15 => ?_)
          refine xr_iinc C d_Md_lay_18 (by decide) hl5 ?_
          refine xr_aload_n C 0 d_Md_lay_21 rfl hl0 ?_
          refine xr_get (k := 29) C xg_Md_62 hw29 (by decide) rfl d_Md_lay_22 ?_
          refine xr_iload C d_Md_lay_25 rfl ?_
          refine xj_iald (k := 47) C (r.length) (by omega) hw47 (by decide) (by omega) (by decide) d_Md_lay_27 ?_
          refine xr_eqz (y := (x : Int)) hTD.1 ?_
          refine xr_istore C d_Md_lay_28 (by decide) ?_
          refine xr_aload_n C 2 d_Md_lay_30 rfl hl2 ?_
          refine xr_iload C d_Md_lay_31 hl4 ?_
          refine xr_iload C d_Md_lay_33 rfl ?_
          refine xj_iast (k := 44) C (n) (by omega) hw44 (by decide) (by omega) (by decide) d_Md_lay_35 ?_
          refine xr_iinc C d_Md_lay_36 (by decide) hl4 ?_
          refine xr_aload_n C 0 d_Md_lay_39 rfl hl0 ?_
          refine xr_get (k := 29) C xg_Md_7 hw29 (by decide) rfl d_Md_lay_40 ?_
          refine xr_iload C d_Md_lay_43 rfl ?_
          refine xj_iald (k := 30) C (x) (by omega) hw30 (by decide) (by omega) (by decide) d_Md_lay_45 ?_
          refine xr_callS C (m_Md_parts (x := sg x) (by have := hA.2 x; omega)) xm_Md_93 x2_Md_parts (by decide) (by decide) (Nat.le_of_ble_eq_true rfl) rfl d_Md_lay_46 (fun En n9 ad9 w9 hx9 => hx9.elim) (fun v n9 ad9 w9 hp => ?_)
          obtain ⟨rfl, rfl, rfl, rfl⟩ := hp
          show XW _ _ _ _ _ _ 49 _ (_ :: _)
          refine xr_eqz (y := 0) (by unfold prt; rw [if_pos (by omega)]) ?_
          refine xr_iconst C d_Md_lay_49 ?_
          refine xz_icmp_ne (tgt := 70) C d_Md_lay_50 (by decide) (by omega) (by omega) (fun c50 => ?_) (fun c50 => by exfalso; omega)
          refine xr_aload_n C 0 d_Md_lay_70 rfl hl0 ?_
          refine xr_get (k := 29) C xg_Md_7 hw29 (by decide) rfl d_Md_lay_71 ?_
          refine xr_iload C d_Md_lay_74 rfl ?_
          refine xj_iald (k := 30) C (x) (by omega) hw30 (by decide) (by omega) (by decide) d_Md_lay_76 ?_
          refine xr_callS C (m_Md_parts (x := sg x) (by have := hA.2 x; omega)) xm_Md_93 x2_Md_parts (by decide) (by decide) (Nat.le_of_ble_eq_true rfl) rfl d_Md_lay_77 (fun En n9 ad9 w9 hx9 => hx9.elim) (fun v n9 ad9 w9 hp => ?_)
          obtain ⟨rfl, rfl, rfl, rfl⟩ := hp
          show XW _ _ _ _ _ _ 80 _ (_ :: _)
          refine xr_eqz (y := 0) (by unfold prt; rw [if_pos (by omega)]) ?_
          refine xz_if_le (tgt := 100) C d_Md_lay_80 (by decide) (by omega) (fun c80 => ?_) (fun c80 => by exfalso; omega)
          refine xr_goto (tgt := 13) C d_Md_lay_100 (by decide) ?_
          refine ih _ _ _ r (dn ++ [x]) (n + 1) (h - 1) _ ?_ hw47 rfl (fun k h1 h2 => (va_ne h2).trans (hfr k h1 h2)) hTD.2 (by rw [hn]; exact DN_add hDN) ?_ (fun y hy => ?_) (by rw [List.length_append, hn]; rfl) (by first | omega | (simp only [List.length_cons]; omega)) hl0 hl2 hl3 rfl (by show some (Value.int (zI ((h : Int) + -1))) = _; rw [show ((h : Int) + -1) = ((h - 1 : Nat) : Int) by omega])
          · rw [List.flatMap_cons, ly_0 (S := S) (x := x) (by omega) (by omega)] at hm
            simp only [List.flatMap_cons, List.length_append, List.length_cons, List.length_nil] at hm ⊢
            omega
          · rw [← hcat, show (x :: r).flatMap (lyS S) = lyS S x ++ r.flatMap (lyS S) from List.flatMap_cons, ly_0 (S := S) (x := x) (by omega) (by omega)]
            simp
          · exact hall y (List.mem_cons_of_mem _ hy)
        · skip
          refine xr_iload C d_Md_lay_13 hl5 ?_
          refine xz_if_le (tgt := 103) C d_Md_lay_15 (by decide) (by omega) (fun c15 => by exfalso; omega) (fun c15 => ?_)
          refine xr_iinc C d_Md_lay_18 (by decide) hl5 ?_
          refine xr_aload_n C 0 d_Md_lay_21 rfl hl0 ?_
          refine xr_get (k := 29) C xg_Md_62 hw29 (by decide) rfl d_Md_lay_22 ?_
          refine xr_iload C d_Md_lay_25 rfl ?_
          refine xj_iald (k := 47) C (r.length) (by omega) hw47 (by decide) (by omega) (by decide) d_Md_lay_27 ?_
          refine xr_eqz (y := (x : Int)) hTD.1 ?_
          refine xr_istore C d_Md_lay_28 (by decide) ?_
          refine xr_aload_n C 2 d_Md_lay_30 rfl hl2 ?_
          refine xr_iload C d_Md_lay_31 hl4 ?_
          refine xr_iload C d_Md_lay_33 rfl ?_
          refine xj_iast (k := 44) C (n) (by omega) hw44 (by decide) (by omega) (by decide) d_Md_lay_35 ?_
          refine xr_iinc C d_Md_lay_36 (by decide) hl4 ?_
          refine xr_aload_n C 0 d_Md_lay_39 rfl hl0 ?_
          refine xr_get (k := 29) C xg_Md_7 hw29 (by decide) rfl d_Md_lay_40 ?_
          refine xr_iload C d_Md_lay_43 rfl ?_
          refine xj_iald (k := 30) C (x) (by omega) hw30 (by decide) (by omega) (by decide) d_Md_lay_45 ?_
          refine xr_callS C (m_Md_parts (x := sg x) (by have := hA.2 x; omega)) xm_Md_93 x2_Md_parts (by decide) (by decide) (Nat.le_of_ble_eq_true rfl) rfl d_Md_lay_46 (fun En n9 ad9 w9 hx9 => hx9.elim) (fun v n9 ad9 w9 hp => ?_)
          obtain ⟨rfl, rfl, rfl, rfl⟩ := hp
          show XW _ _ _ _ _ _ 49 _ (_ :: _)
          refine xr_eqz (y := 1) (by unfold prt; rw [if_neg (by omega), if_pos (by omega)]) ?_
          refine xr_iconst C d_Md_lay_49 ?_
          refine xz_icmp_ne (tgt := 70) C d_Md_lay_50 (by decide) (by omega) (by omega) (fun c50 => ?_) (fun c50 => by exfalso; omega)
          refine xr_aload_n C 0 d_Md_lay_70 rfl hl0 ?_
          refine xr_get (k := 29) C xg_Md_7 hw29 (by decide) rfl d_Md_lay_71 ?_
          refine xr_iload C d_Md_lay_74 rfl ?_
          refine xj_iald (k := 30) C (x) (by omega) hw30 (by decide) (by omega) (by decide) d_Md_lay_76 ?_
          refine xr_callS C (m_Md_parts (x := sg x) (by have := hA.2 x; omega)) xm_Md_93 x2_Md_parts (by decide) (by decide) (Nat.le_of_ble_eq_true rfl) rfl d_Md_lay_77 (fun En n9 ad9 w9 hx9 => hx9.elim) (fun v n9 ad9 w9 hp => ?_)
          obtain ⟨rfl, rfl, rfl, rfl⟩ := hp
          show XW _ _ _ _ _ _ 80 _ (_ :: _)
          refine xr_eqz (y := 1) (by unfold prt; rw [if_neg (by omega), if_pos (by omega)]) ?_
          refine xz_if_le (tgt := 100) C d_Md_lay_80 (by decide) (by omega) (fun c80 => by exfalso; omega) (fun c80 => ?_)
          refine xr_aload_n C 0 d_Md_lay_83 rfl hl0 ?_
          refine xr_get (k := 29) C xg_Md_62 hw29 (by decide) rfl d_Md_lay_84 ?_
          refine xr_iload C d_Md_lay_87 rfl ?_
          refine xr_aload_n C 0 d_Md_lay_89 rfl hl0 ?_
          refine xr_get (k := 29) C xg_Md_13 hw29 (by decide) rfl d_Md_lay_90 ?_
          refine xr_iload C d_Md_lay_93 rfl ?_
          refine xj_iald (k := 31) C (x) (by omega) hw31 (by decide) (by omega) (by decide) d_Md_lay_95 ?_
          refine xr_eqz (y := ((sFs S x).toNat : Int)) (by omega) ?_
          refine xj_iast (k := 47) C (r.length) (by omega) hw47 (by decide) (by omega) (by decide) d_Md_lay_96 ?_
          refine xr_iinc C d_Md_lay_97 (by decide) rfl ?_
          refine xr_goto (tgt := 13) C d_Md_lay_100 (by decide) ?_
          refine ih _ _ _ ((sFs S x).toNat :: r) (dn ++ [x]) (n + 1) h _ ?_ rfl rfl (fun k h1 h2 => (va_ne h1).trans ((va_ne h2).trans (hfr k h1 h2))) ⟨va_eq, TD_up hTD.2 (Nat.le_refl _)⟩ (by rw [hn]; exact DN_add hDN) ?_ (fun y hy => ?_) (by rw [List.length_append, hn]; rfl) (by first | omega | (simp only [List.length_cons]; omega)) hl0 hl2 hl3 rfl (by show some (Value.int (zI ((h : Int) + -1 + 1))) = _; rw [show ((h : Int) + -1 + 1) = (h : Int) by omega])
          · rw [List.flatMap_cons, ly_1 (S := S) (x := x) (by omega) (by omega)] at hm
            simp only [List.flatMap_cons, List.length_append, List.length_cons, List.length_nil] at hm ⊢
            omega
          · rw [← hcat, show (x :: r).flatMap (lyS S) = lyS S x ++ r.flatMap (lyS S) from List.flatMap_cons, ly_1 (S := S) (x := x) (by omega) (by omega)]
            simp
          · rcases List.mem_cons.mp hy with rfl | hy
            · omega
            · exact hall y (List.mem_cons_of_mem _ hy)
        · skip
          refine xr_iload C d_Md_lay_13 hl5 ?_
          refine xz_if_le (tgt := 103) C d_Md_lay_15 (by decide) (by omega) (fun c15 => by exfalso; omega) (fun c15 => ?_)
          refine xr_iinc C d_Md_lay_18 (by decide) hl5 ?_
          refine xr_aload_n C 0 d_Md_lay_21 rfl hl0 ?_
          refine xr_get (k := 29) C xg_Md_62 hw29 (by decide) rfl d_Md_lay_22 ?_
          refine xr_iload C d_Md_lay_25 rfl ?_
          refine xj_iald (k := 47) C (r.length) (by omega) hw47 (by decide) (by omega) (by decide) d_Md_lay_27 ?_
          refine xr_eqz (y := (x : Int)) hTD.1 ?_
          refine xr_istore C d_Md_lay_28 (by decide) ?_
          refine xr_aload_n C 2 d_Md_lay_30 rfl hl2 ?_
          refine xr_iload C d_Md_lay_31 hl4 ?_
          refine xr_iload C d_Md_lay_33 rfl ?_
          refine xj_iast (k := 44) C (n) (by omega) hw44 (by decide) (by omega) (by decide) d_Md_lay_35 ?_
          refine xr_iinc C d_Md_lay_36 (by decide) hl4 ?_
          refine xr_aload_n C 0 d_Md_lay_39 rfl hl0 ?_
          refine xr_get (k := 29) C xg_Md_7 hw29 (by decide) rfl d_Md_lay_40 ?_
          refine xr_iload C d_Md_lay_43 rfl ?_
          refine xj_iald (k := 30) C (x) (by omega) hw30 (by decide) (by omega) (by decide) d_Md_lay_45 ?_
          refine xr_callS C (m_Md_parts (x := sg x) (by have := hA.2 x; omega)) xm_Md_93 x2_Md_parts (by decide) (by decide) (Nat.le_of_ble_eq_true rfl) rfl d_Md_lay_46 (fun En n9 ad9 w9 hx9 => hx9.elim) (fun v n9 ad9 w9 hp => ?_)
          obtain ⟨rfl, rfl, rfl, rfl⟩ := hp
          show XW _ _ _ _ _ _ 49 _ (_ :: _)
          refine xr_eqz (y := 2) (by unfold prt; rw [if_neg (by omega), if_neg (by omega)]) ?_
          refine xr_iconst C d_Md_lay_49 ?_
          refine xz_icmp_ne (tgt := 70) C d_Md_lay_50 (by decide) (by omega) (by omega) (fun c50 => by exfalso; omega) (fun c50 => ?_)
          refine xr_aload_n C 0 d_Md_lay_53 rfl hl0 ?_
          refine xr_get (k := 29) C xg_Md_62 hw29 (by decide) rfl d_Md_lay_54 ?_
          refine xr_iload C d_Md_lay_57 rfl ?_
          refine xr_aload_n C 0 d_Md_lay_59 rfl hl0 ?_
          refine xr_get (k := 29) C xg_Md_16 hw29 (by decide) rfl d_Md_lay_60 ?_
          refine xr_iload C d_Md_lay_63 rfl ?_
          refine xj_iald (k := 32) C (x) (by omega) hw32 (by decide) (by omega) (by decide) d_Md_lay_65 ?_
          refine xr_eqz (y := ((sSn S x).toNat : Int)) (by omega) ?_
          refine xj_iast (k := 47) C (r.length) (by omega) hw47 (by decide) (by omega) (by decide) d_Md_lay_66 ?_
          refine xr_iinc C d_Md_lay_67 (by decide) rfl ?_
          refine xr_aload_n C 0 d_Md_lay_70 rfl hl0 ?_
          refine xr_get (k := 29) C xg_Md_7 hw29 (by decide) rfl d_Md_lay_71 ?_
          refine xr_iload C d_Md_lay_74 rfl ?_
          refine xj_iald (k := 30) C (x) (by omega) hw30 (by decide) (by omega) (by decide) d_Md_lay_76 ?_
          refine xr_callS C (m_Md_parts (x := sg x) (by have := hA.2 x; omega)) xm_Md_93 x2_Md_parts (by decide) (by decide) (Nat.le_of_ble_eq_true rfl) rfl d_Md_lay_77 (fun En n9 ad9 w9 hx9 => hx9.elim) (fun v n9 ad9 w9 hp => ?_)
          obtain ⟨rfl, rfl, rfl, rfl⟩ := hp
          show XW _ _ _ _ _ _ 80 _ (_ :: _)
          refine xr_eqz (y := 2) (by unfold prt; rw [if_neg (by omega), if_neg (by omega)]) ?_
          refine xz_if_le (tgt := 100) C d_Md_lay_80 (by decide) (by omega) (fun c80 => by exfalso; omega) (fun c80 => ?_)
          refine xr_aload_n C 0 d_Md_lay_83 rfl hl0 ?_
          refine xr_get (k := 29) C xg_Md_62 hw29 (by decide) rfl d_Md_lay_84 ?_
          refine xr_iload C d_Md_lay_87 rfl ?_
          refine xr_aload_n C 0 d_Md_lay_89 rfl hl0 ?_
          refine xr_get (k := 29) C xg_Md_13 hw29 (by decide) rfl d_Md_lay_90 ?_
          refine xr_iload C d_Md_lay_93 rfl ?_
          refine xj_iald (k := 31) C (x) (by omega) hw31 (by decide) (by omega) (by decide) d_Md_lay_95 ?_
          refine xr_eqz (y := ((sFs S x).toNat : Int)) (by omega) ?_
          refine xj_iast (k := 47) C (r.length + 1) (by omega) rfl (by decide) (by omega) (by decide) d_Md_lay_96 ?_
          refine xr_iinc C d_Md_lay_97 (by decide) rfl ?_
          refine xr_goto (tgt := 13) C d_Md_lay_100 (by decide) ?_
          refine ih _ _ _ ((sFs S x).toNat :: (sSn S x).toNat :: r) (dn ++ [x]) (n + 1) (h + 1) _ ?_ rfl rfl (fun k h1 h2 => (va_ne h1).trans ((va_ne h1).trans ((va_ne h2).trans (hfr k h1 h2)))) ⟨va_eq, (va_ne (by omega)).trans va_eq, TD_up (TD_up hTD.2 (Nat.le_refl _)) (by omega)⟩ (by rw [hn]; exact DN_add hDN) ?_ (fun y hy => ?_) (by rw [List.length_append, hn]; rfl) (by first | omega | (simp only [List.length_cons]; omega)) hl0 hl2 hl3 rfl (by show some (Value.int (zI ((h : Int) + -1 + 1 + 1))) = _; rw [show ((h : Int) + -1 + 1 + 1) = ((h + 1 : Nat) : Int) by omega])
          · rw [List.flatMap_cons, ly_2 (S := S) (x := x) (by omega) (by omega)] at hm
            simp only [List.flatMap_cons, List.length_append, List.length_cons, List.length_nil] at hm ⊢
            omega
          · rw [← hcat, show (x :: r).flatMap (lyS S) = lyS S x ++ r.flatMap (lyS S) from List.flatMap_cons, ly_2 (S := S) (x := x) (by omega) (by omega)]
            simp
          · rcases List.mem_cons.mp hy with rfl | hy
            · omega
            · rcases List.mem_cons.mp hy with rfl | hy
              · omega
              · exact hall y (List.mem_cons_of_mem _ hy)
  refine xr_iconst C d_Md_lay_0 ?_
  refine xr_istore C d_Md_lay_1 (by decide) ?_
  refine xr_iconst C d_Md_lay_3 ?_
  refine xr_istore C d_Md_lay_4 (by decide) ?_
  refine xr_aload_n C 0 d_Md_lay_6 rfl rfl ?_
  refine xr_get (k := 29) C xg_Md_62 hw29 (by decide) rfl d_Md_lay_7 ?_
  refine xr_iconst C d_Md_lay_10 ?_
  refine xr_iload_n C 1 d_Md_lay_11 rfl rfl ?_
  refine xj_iast (k := 47) C (0) (by omega) hw47 (by decide) (by omega) (by decide) d_Md_lay_12 ?_
  refine lp ((lyS S t).length + 1) _ (va_up td0 0 (t : Int)) f0 [t] [] 0 1 _ (by simp) rfl hw44 (fun k h1 h2 => va_ne h1) ⟨va_eq, trivial⟩ (fun i x hx => by simp at hx) (by simp) (fun y hy => by rw [List.mem_singleton.mp hy]; exact ht) rfl rfl rfl rfl rfl rfl rfl
set_option maxHeartbeats 4000000 in
set_option maxRecDepth 100000 in
theorem m_Md_lay_46 {L : Launch} {D : va_G} {cA : Nat → ClassId} {base : Nat} {ad : Nat → Nat} {w : Nat → va_E} {S : xS} {ru ro sp nr ns th : Int} {se fa so : Bool} {t : Nat} {td0 f0 : Nat → Int} (hMT : MT ad cA w S ru ro sp nr ns th se fa so) (hT : Tb S) (ht : t < sN S) (hw47 : w 47 = xIA (cA 0) 1100 td0) (hw46 : w 46 = xIA (cA 0) 1001 f0) : XM L D cA base y_Md_lay c_Md_lay 7 (some .int) (xrm 1 0 0) [.ref (ad 29), .int (zI (t : Int)), .ref (ad 46), .int (zI (xb false))] 56 ad w (xRet 56 ad (fun z w' => z = ((lyS S t).length : Int) ∧ ∃ td f : Nat → Int, w' 47 = xIA (cA 0) 1100 td ∧ w' 46 = xIA (cA 0) 1001 f ∧ (∀ k, k ≠ 47 → k ≠ 46 → w' k = w k) ∧ DN f (lyS S t))) xF := by
  refine xm_of (by decide +kernel) (by simp [Value.category]) (Nat.le_of_ble_eq_true rfl) (fun G C E _ => ?_)
  obtain ⟨sg, fs, sn, wt, pl, dp, ho, hw29, hw30, hw31, hw32, hw33, hw34, hw35, hw36, hA⟩ := hMT
  have hlen : ((lyS S t).length : Int) = sPl S t := ly_len hT t ht
  have hpl := (hT.2.1 t ht).2.2.2.2.2
  have hN := hT.1
  have lp : ∀ (m : Nat) (w1 : Nat → va_E) (td f : Nat → Int) (stk dn : List Nat) (n h : Nat) (lv : Nat → Option Value), (stk.flatMap (lyS S)).length < m → w1 47 = xIA (cA 0) 1100 td → w1 46 = xIA (cA 0) 1001 f → (∀ k, k ≠ 47 → k ≠ 46 → w1 k = w k) → TD td stk → DN f dn → dn ++ stk.flatMap (lyS S) = lyS S t → (∀ y ∈ stk, y < sN S) → n = dn.length → h = stk.length → lv 0 = some (.ref (ad 29)) → lv 2 = some (.ref (ad 46)) → lv 3 = some (.int (zI (xb false))) → lv 4 = some (.int (zI (n : Int))) → lv 5 = some (.int (zI (h : Int))) → XW G 56 ad w1 0 0 13 lv [] := by
    intro m
    induction m with
    | zero => intro w1 td f stk dn n h lv hm; exact absurd hm (by omega)
    | succ m ih =>
      intro w1 td f stk dn n h lv hm hw47 hw46 hfr hTD hDN hcat hall hn hh hl0 hl2 hl3 hl4 hl5
      have hw29 := (hfr 29 (by decide) (by decide)).trans hw29
      have hw30 := (hfr 30 (by decide) (by decide)).trans hw30
      have hw31 := (hfr 31 (by decide) (by decide)).trans hw31
      have hw32 := (hfr 32 (by decide) (by decide)).trans hw32
      have htot : dn.length + (stk.flatMap (lyS S)).length ≤ 1000 := by
        have := congrArg List.length hcat
        rw [List.length_append] at this
        omega
      cases stk with
      | nil =>
        have hdt : dn = lyS S t := by rw [← hcat]; simp
        have hh : h = 0 := hh
        refine xr_iload C d_Md_lay_13 hl5 ?_
        refine xz_if_le (tgt := 103) C d_Md_lay_15 (by decide) (by omega) (fun c15 => ?_) (fun c15 => by exfalso; omega)
        refine xr_iload_n C 3 d_Md_lay_103 rfl hl3 ?_
        refine xb_if_eq (tgt := 113) C d_Md_lay_104 (by decide)  (fun c104 => ?_) (fun c104 => by exfalso; exact absurd c104 (by decide))
        refine xr_iload C d_Md_lay_113 hl4 ?_
        refine xr_eqz (y := ((lyS S t).length : Int)) (by rw [← hdt, hn]) ?_
        exact xr_iret C E ⟨rfl, rfl, _, rfl, rfl, td, f, hw47, hw46, hfr, by rw [← hdt]; exact hDN⟩ (by decide) (by decide) d_Md_lay_115
      | cons x r =>
        have hxN := hall x List.mem_cons_self
        have hlx := ly_pos S x
        have hlr := fl_len S r
        have hlen9 : (lyS S x).length + (r.flatMap (lyS S)).length + dn.length ≤ 1000 := by
          rw [List.flatMap_cons, List.length_append] at htot
          omega
        have hh : h = r.length + 1 := hh
        obtain ⟨q1, q2, q3, -⟩ := hA.1 x hxN
        have qs := (hT.2.1 x hxN).1
        unfold shp at qs
        rcases qs with q | q | q | q
        · skip
          refine xr_iload C d_Md_lay_13 hl5 ?_
          refine xz_if_le (tgt := 103) C d_Md_lay_15 (by decide) (by omega) (fun c15 => by exfalso; omega) (fun c15 => ?_)
          refine xr_iinc C d_Md_lay_18 (by decide) hl5 ?_
          refine xr_aload_n C 0 d_Md_lay_21 rfl hl0 ?_
          refine xr_get (k := 29) C xg_Md_62 hw29 (by decide) rfl d_Md_lay_22 ?_
          refine xr_iload C d_Md_lay_25 rfl ?_
          refine xj_iald (k := 47) C (r.length) (by omega) hw47 (by decide) (by omega) (by decide) d_Md_lay_27 ?_
          refine xr_eqz (y := (x : Int)) hTD.1 ?_
          refine xr_istore C d_Md_lay_28 (by decide) ?_
          refine xr_aload_n C 2 d_Md_lay_30 rfl hl2 ?_
          refine xr_iload C d_Md_lay_31 hl4 ?_
          refine xr_iload C d_Md_lay_33 rfl ?_
          refine xj_iast (k := 46) C (n) (by omega) hw46 (by decide) (by omega) (by decide) d_Md_lay_35 ?_
          refine xr_iinc C d_Md_lay_36 (by decide) hl4 ?_
          refine xr_aload_n C 0 d_Md_lay_39 rfl hl0 ?_
          refine xr_get (k := 29) C xg_Md_7 hw29 (by decide) rfl d_Md_lay_40 ?_
          refine xr_iload C d_Md_lay_43 rfl ?_
          refine xj_iald (k := 30) C (x) (by omega) hw30 (by decide) (by omega) (by decide) d_Md_lay_45 ?_
          refine xr_callS C (m_Md_parts (x := sg x) (by have := hA.2 x; omega)) xm_Md_93 x2_Md_parts (by decide) (by decide) (Nat.le_of_ble_eq_true rfl) rfl d_Md_lay_46 (fun En n9 ad9 w9 hx9 => hx9.elim) (fun v n9 ad9 w9 hp => ?_)
          obtain ⟨rfl, rfl, rfl, rfl⟩ := hp
          show XW _ _ _ _ _ _ 49 _ (_ :: _)
          refine xr_eqz (y := 0) (by unfold prt; rw [if_pos (by omega)]) ?_
          refine xr_iconst C d_Md_lay_49 ?_
          refine xz_icmp_ne (tgt := 70) C d_Md_lay_50 (by decide) (by omega) (by omega) (fun c50 => ?_) (fun c50 => by exfalso; omega)
          refine xr_aload_n C 0 d_Md_lay_70 rfl hl0 ?_
          refine xr_get (k := 29) C xg_Md_7 hw29 (by decide) rfl d_Md_lay_71 ?_
          refine xr_iload C d_Md_lay_74 rfl ?_
          refine xj_iald (k := 30) C (x) (by omega) hw30 (by decide) (by omega) (by decide) d_Md_lay_76 ?_
          refine xr_callS C (m_Md_parts (x := sg x) (by have := hA.2 x; omega)) xm_Md_93 x2_Md_parts (by decide) (by decide) (Nat.le_of_ble_eq_true rfl) rfl d_Md_lay_77 (fun En n9 ad9 w9 hx9 => hx9.elim) (fun v n9 ad9 w9 hp => ?_)
          obtain ⟨rfl, rfl, rfl, rfl⟩ := hp
          show XW _ _ _ _ _ _ 80 _ (_ :: _)
          refine xr_eqz (y := 0) (by unfold prt; rw [if_pos (by omega)]) ?_
          refine xz_if_le (tgt := 100) C d_Md_lay_80 (by decide) (by omega) (fun c80 => ?_) (fun c80 => by exfalso; omega)
          refine xr_goto (tgt := 13) C d_Md_lay_100 (by decide) ?_
          refine ih _ _ _ r (dn ++ [x]) (n + 1) (h - 1) _ ?_ hw47 rfl (fun k h1 h2 => (va_ne h2).trans (hfr k h1 h2)) hTD.2 (by rw [hn]; exact DN_add hDN) ?_ (fun y hy => ?_) (by rw [List.length_append, hn]; rfl) (by first | omega | (simp only [List.length_cons]; omega)) hl0 hl2 hl3 rfl (by show some (Value.int (zI ((h : Int) + -1))) = _; rw [show ((h : Int) + -1) = ((h - 1 : Nat) : Int) by omega])
          · rw [List.flatMap_cons, ly_0 (S := S) (x := x) (by omega) (by omega)] at hm
            simp only [List.flatMap_cons, List.length_append, List.length_cons, List.length_nil] at hm ⊢
            omega
          · rw [← hcat, show (x :: r).flatMap (lyS S) = lyS S x ++ r.flatMap (lyS S) from List.flatMap_cons, ly_0 (S := S) (x := x) (by omega) (by omega)]
            simp
          · exact hall y (List.mem_cons_of_mem _ hy)
        · skip
          refine xr_iload C d_Md_lay_13 hl5 ?_
          refine xz_if_le (tgt := 103) C d_Md_lay_15 (by decide) (by omega) (fun c15 => by exfalso; omega) (fun c15 => ?_)
          refine xr_iinc C d_Md_lay_18 (by decide) hl5 ?_
          refine xr_aload_n C 0 d_Md_lay_21 rfl hl0 ?_
          refine xr_get (k := 29) C xg_Md_62 hw29 (by decide) rfl d_Md_lay_22 ?_
          refine xr_iload C d_Md_lay_25 rfl ?_
          refine xj_iald (k := 47) C (r.length) (by omega) hw47 (by decide) (by omega) (by decide) d_Md_lay_27 ?_
          refine xr_eqz (y := (x : Int)) hTD.1 ?_
          refine xr_istore C d_Md_lay_28 (by decide) ?_
          refine xr_aload_n C 2 d_Md_lay_30 rfl hl2 ?_
          refine xr_iload C d_Md_lay_31 hl4 ?_
          refine xr_iload C d_Md_lay_33 rfl ?_
          refine xj_iast (k := 46) C (n) (by omega) hw46 (by decide) (by omega) (by decide) d_Md_lay_35 ?_
          refine xr_iinc C d_Md_lay_36 (by decide) hl4 ?_
          refine xr_aload_n C 0 d_Md_lay_39 rfl hl0 ?_
          refine xr_get (k := 29) C xg_Md_7 hw29 (by decide) rfl d_Md_lay_40 ?_
          refine xr_iload C d_Md_lay_43 rfl ?_
          refine xj_iald (k := 30) C (x) (by omega) hw30 (by decide) (by omega) (by decide) d_Md_lay_45 ?_
          refine xr_callS C (m_Md_parts (x := sg x) (by have := hA.2 x; omega)) xm_Md_93 x2_Md_parts (by decide) (by decide) (Nat.le_of_ble_eq_true rfl) rfl d_Md_lay_46 (fun En n9 ad9 w9 hx9 => hx9.elim) (fun v n9 ad9 w9 hp => ?_)
          obtain ⟨rfl, rfl, rfl, rfl⟩ := hp
          show XW _ _ _ _ _ _ 49 _ (_ :: _)
          refine xr_eqz (y := 0) (by unfold prt; rw [if_pos (by omega)]) ?_
          refine xr_iconst C d_Md_lay_49 ?_
          refine xz_icmp_ne (tgt := 70) C d_Md_lay_50 (by decide) (by omega) (by omega) (fun c50 => ?_) (fun c50 => by exfalso; omega)
          refine xr_aload_n C 0 d_Md_lay_70 rfl hl0 ?_
          refine xr_get (k := 29) C xg_Md_7 hw29 (by decide) rfl d_Md_lay_71 ?_
          refine xr_iload C d_Md_lay_74 rfl ?_
          refine xj_iald (k := 30) C (x) (by omega) hw30 (by decide) (by omega) (by decide) d_Md_lay_76 ?_
          refine xr_callS C (m_Md_parts (x := sg x) (by have := hA.2 x; omega)) xm_Md_93 x2_Md_parts (by decide) (by decide) (Nat.le_of_ble_eq_true rfl) rfl d_Md_lay_77 (fun En n9 ad9 w9 hx9 => hx9.elim) (fun v n9 ad9 w9 hp => ?_)
          obtain ⟨rfl, rfl, rfl, rfl⟩ := hp
          show XW _ _ _ _ _ _ 80 _ (_ :: _)
          refine xr_eqz (y := 0) (by unfold prt; rw [if_pos (by omega)]) ?_
          refine xz_if_le (tgt := 100) C d_Md_lay_80 (by decide) (by omega) (fun c80 => ?_) (fun c80 => by exfalso; omega)
          refine xr_goto (tgt := 13) C d_Md_lay_100 (by decide) ?_
          refine ih _ _ _ r (dn ++ [x]) (n + 1) (h - 1) _ ?_ hw47 rfl (fun k h1 h2 => (va_ne h2).trans (hfr k h1 h2)) hTD.2 (by rw [hn]; exact DN_add hDN) ?_ (fun y hy => ?_) (by rw [List.length_append, hn]; rfl) (by first | omega | (simp only [List.length_cons]; omega)) hl0 hl2 hl3 rfl (by show some (Value.int (zI ((h : Int) + -1))) = _; rw [show ((h : Int) + -1) = ((h - 1 : Nat) : Int) by omega])
          · rw [List.flatMap_cons, ly_0 (S := S) (x := x) (by omega) (by omega)] at hm
            simp only [List.flatMap_cons, List.length_append, List.length_cons, List.length_nil] at hm ⊢
            omega
          · rw [← hcat, show (x :: r).flatMap (lyS S) = lyS S x ++ r.flatMap (lyS S) from List.flatMap_cons, ly_0 (S := S) (x := x) (by omega) (by omega)]
            simp
          · exact hall y (List.mem_cons_of_mem _ hy)
        · skip
          refine xr_iload C d_Md_lay_13 hl5 ?_
          refine xz_if_le (tgt := 103) C d_Md_lay_15 (by decide) (by omega) (fun c15 => by exfalso; omega) (fun c15 => ?_)
          refine xr_iinc C d_Md_lay_18 (by decide) hl5 ?_
          refine xr_aload_n C 0 d_Md_lay_21 rfl hl0 ?_
          refine xr_get (k := 29) C xg_Md_62 hw29 (by decide) rfl d_Md_lay_22 ?_
          refine xr_iload C d_Md_lay_25 rfl ?_
          refine xj_iald (k := 47) C (r.length) (by omega) hw47 (by decide) (by omega) (by decide) d_Md_lay_27 ?_
          refine xr_eqz (y := (x : Int)) hTD.1 ?_
          refine xr_istore C d_Md_lay_28 (by decide) ?_
          refine xr_aload_n C 2 d_Md_lay_30 rfl hl2 ?_
          refine xr_iload C d_Md_lay_31 hl4 ?_
          refine xr_iload C d_Md_lay_33 rfl ?_
          refine xj_iast (k := 46) C (n) (by omega) hw46 (by decide) (by omega) (by decide) d_Md_lay_35 ?_
          refine xr_iinc C d_Md_lay_36 (by decide) hl4 ?_
          refine xr_aload_n C 0 d_Md_lay_39 rfl hl0 ?_
          refine xr_get (k := 29) C xg_Md_7 hw29 (by decide) rfl d_Md_lay_40 ?_
          refine xr_iload C d_Md_lay_43 rfl ?_
          refine xj_iald (k := 30) C (x) (by omega) hw30 (by decide) (by omega) (by decide) d_Md_lay_45 ?_
          refine xr_callS C (m_Md_parts (x := sg x) (by have := hA.2 x; omega)) xm_Md_93 x2_Md_parts (by decide) (by decide) (Nat.le_of_ble_eq_true rfl) rfl d_Md_lay_46 (fun En n9 ad9 w9 hx9 => hx9.elim) (fun v n9 ad9 w9 hp => ?_)
          obtain ⟨rfl, rfl, rfl, rfl⟩ := hp
          show XW _ _ _ _ _ _ 49 _ (_ :: _)
          refine xr_eqz (y := 1) (by unfold prt; rw [if_neg (by omega), if_pos (by omega)]) ?_
          refine xr_iconst C d_Md_lay_49 ?_
          refine xz_icmp_ne (tgt := 70) C d_Md_lay_50 (by decide) (by omega) (by omega) (fun c50 => ?_) (fun c50 => by exfalso; omega)
          refine xr_aload_n C 0 d_Md_lay_70 rfl hl0 ?_
          refine xr_get (k := 29) C xg_Md_7 hw29 (by decide) rfl d_Md_lay_71 ?_
          refine xr_iload C d_Md_lay_74 rfl ?_
          refine xj_iald (k := 30) C (x) (by omega) hw30 (by decide) (by omega) (by decide) d_Md_lay_76 ?_
          refine xr_callS C (m_Md_parts (x := sg x) (by have := hA.2 x; omega)) xm_Md_93 x2_Md_parts (by decide) (by decide) (Nat.le_of_ble_eq_true rfl) rfl d_Md_lay_77 (fun En n9 ad9 w9 hx9 => hx9.elim) (fun v n9 ad9 w9 hp => ?_)
          obtain ⟨rfl, rfl, rfl, rfl⟩ := hp
          show XW _ _ _ _ _ _ 80 _ (_ :: _)
          refine xr_eqz (y := 1) (by unfold prt; rw [if_neg (by omega), if_pos (by omega)]) ?_
          refine xz_if_le (tgt := 100) C d_Md_lay_80 (by decide) (by omega) (fun c80 => by exfalso; omega) (fun c80 => ?_)
          refine xr_aload_n C 0 d_Md_lay_83 rfl hl0 ?_
          refine xr_get (k := 29) C xg_Md_62 hw29 (by decide) rfl d_Md_lay_84 ?_
          refine xr_iload C d_Md_lay_87 rfl ?_
          refine xr_aload_n C 0 d_Md_lay_89 rfl hl0 ?_
          refine xr_get (k := 29) C xg_Md_13 hw29 (by decide) rfl d_Md_lay_90 ?_
          refine xr_iload C d_Md_lay_93 rfl ?_
          refine xj_iald (k := 31) C (x) (by omega) hw31 (by decide) (by omega) (by decide) d_Md_lay_95 ?_
          refine xr_eqz (y := ((sFs S x).toNat : Int)) (by omega) ?_
          refine xj_iast (k := 47) C (r.length) (by omega) hw47 (by decide) (by omega) (by decide) d_Md_lay_96 ?_
          refine xr_iinc C d_Md_lay_97 (by decide) rfl ?_
          refine xr_goto (tgt := 13) C d_Md_lay_100 (by decide) ?_
          refine ih _ _ _ ((sFs S x).toNat :: r) (dn ++ [x]) (n + 1) h _ ?_ rfl rfl (fun k h1 h2 => (va_ne h1).trans ((va_ne h2).trans (hfr k h1 h2))) ⟨va_eq, TD_up hTD.2 (Nat.le_refl _)⟩ (by rw [hn]; exact DN_add hDN) ?_ (fun y hy => ?_) (by rw [List.length_append, hn]; rfl) (by first | omega | (simp only [List.length_cons]; omega)) hl0 hl2 hl3 rfl (by show some (Value.int (zI ((h : Int) + -1 + 1))) = _; rw [show ((h : Int) + -1 + 1) = (h : Int) by omega])
          · rw [List.flatMap_cons, ly_1 (S := S) (x := x) (by omega) (by omega)] at hm
            simp only [List.flatMap_cons, List.length_append, List.length_cons, List.length_nil] at hm ⊢
            omega
          · rw [← hcat, show (x :: r).flatMap (lyS S) = lyS S x ++ r.flatMap (lyS S) from List.flatMap_cons, ly_1 (S := S) (x := x) (by omega) (by omega)]
            simp
          · rcases List.mem_cons.mp hy with rfl | hy
            · omega
            · exact hall y (List.mem_cons_of_mem _ hy)
        · skip
          refine xr_iload C d_Md_lay_13 hl5 ?_
          refine xz_if_le (tgt := 103) C d_Md_lay_15 (by decide) (by omega) (fun c15 => by exfalso; omega) (fun c15 => ?_)
          refine xr_iinc C d_Md_lay_18 (by decide) hl5 ?_
          refine xr_aload_n C 0 d_Md_lay_21 rfl hl0 ?_
          refine xr_get (k := 29) C xg_Md_62 hw29 (by decide) rfl d_Md_lay_22 ?_
          refine xr_iload C d_Md_lay_25 rfl ?_
          refine xj_iald (k := 47) C (r.length) (by omega) hw47 (by decide) (by omega) (by decide) d_Md_lay_27 ?_
          refine xr_eqz (y := (x : Int)) hTD.1 ?_
          refine xr_istore C d_Md_lay_28 (by decide) ?_
          refine xr_aload_n C 2 d_Md_lay_30 rfl hl2 ?_
          refine xr_iload C d_Md_lay_31 hl4 ?_
          refine xr_iload C d_Md_lay_33 rfl ?_
          refine xj_iast (k := 46) C (n) (by omega) hw46 (by decide) (by omega) (by decide) d_Md_lay_35 ?_
          refine xr_iinc C d_Md_lay_36 (by decide) hl4 ?_
          refine xr_aload_n C 0 d_Md_lay_39 rfl hl0 ?_
          refine xr_get (k := 29) C xg_Md_7 hw29 (by decide) rfl d_Md_lay_40 ?_
          refine xr_iload C d_Md_lay_43 rfl ?_
          refine xj_iald (k := 30) C (x) (by omega) hw30 (by decide) (by omega) (by decide) d_Md_lay_45 ?_
          refine xr_callS C (m_Md_parts (x := sg x) (by have := hA.2 x; omega)) xm_Md_93 x2_Md_parts (by decide) (by decide) (Nat.le_of_ble_eq_true rfl) rfl d_Md_lay_46 (fun En n9 ad9 w9 hx9 => hx9.elim) (fun v n9 ad9 w9 hp => ?_)
          obtain ⟨rfl, rfl, rfl, rfl⟩ := hp
          show XW _ _ _ _ _ _ 49 _ (_ :: _)
          refine xr_eqz (y := 2) (by unfold prt; rw [if_neg (by omega), if_neg (by omega)]) ?_
          refine xr_iconst C d_Md_lay_49 ?_
          refine xz_icmp_ne (tgt := 70) C d_Md_lay_50 (by decide) (by omega) (by omega) (fun c50 => by exfalso; omega) (fun c50 => ?_)
          refine xr_aload_n C 0 d_Md_lay_53 rfl hl0 ?_
          refine xr_get (k := 29) C xg_Md_62 hw29 (by decide) rfl d_Md_lay_54 ?_
          refine xr_iload C d_Md_lay_57 rfl ?_
          refine xr_aload_n C 0 d_Md_lay_59 rfl hl0 ?_
          refine xr_get (k := 29) C xg_Md_16 hw29 (by decide) rfl d_Md_lay_60 ?_
          refine xr_iload C d_Md_lay_63 rfl ?_
          refine xj_iald (k := 32) C (x) (by omega) hw32 (by decide) (by omega) (by decide) d_Md_lay_65 ?_
          refine xr_eqz (y := ((sSn S x).toNat : Int)) (by omega) ?_
          refine xj_iast (k := 47) C (r.length) (by omega) hw47 (by decide) (by omega) (by decide) d_Md_lay_66 ?_
          refine xr_iinc C d_Md_lay_67 (by decide) rfl ?_
          refine xr_aload_n C 0 d_Md_lay_70 rfl hl0 ?_
          refine xr_get (k := 29) C xg_Md_7 hw29 (by decide) rfl d_Md_lay_71 ?_
          refine xr_iload C d_Md_lay_74 rfl ?_
          refine xj_iald (k := 30) C (x) (by omega) hw30 (by decide) (by omega) (by decide) d_Md_lay_76 ?_
          refine xr_callS C (m_Md_parts (x := sg x) (by have := hA.2 x; omega)) xm_Md_93 x2_Md_parts (by decide) (by decide) (Nat.le_of_ble_eq_true rfl) rfl d_Md_lay_77 (fun En n9 ad9 w9 hx9 => hx9.elim) (fun v n9 ad9 w9 hp => ?_)
          obtain ⟨rfl, rfl, rfl, rfl⟩ := hp
          show XW _ _ _ _ _ _ 80 _ (_ :: _)
          refine xr_eqz (y := 2) (by unfold prt; rw [if_neg (by omega), if_neg (by omega)]) ?_
          refine xz_if_le (tgt := 100) C d_Md_lay_80 (by decide) (by omega) (fun c80 => by exfalso; omega) (fun c80 => ?_)
          refine xr_aload_n C 0 d_Md_lay_83 rfl hl0 ?_
          refine xr_get (k := 29) C xg_Md_62 hw29 (by decide) rfl d_Md_lay_84 ?_
          refine xr_iload C d_Md_lay_87 rfl ?_
          refine xr_aload_n C 0 d_Md_lay_89 rfl hl0 ?_
          refine xr_get (k := 29) C xg_Md_13 hw29 (by decide) rfl d_Md_lay_90 ?_
          refine xr_iload C d_Md_lay_93 rfl ?_
          refine xj_iald (k := 31) C (x) (by omega) hw31 (by decide) (by omega) (by decide) d_Md_lay_95 ?_
          refine xr_eqz (y := ((sFs S x).toNat : Int)) (by omega) ?_
          refine xj_iast (k := 47) C (r.length + 1) (by omega) rfl (by decide) (by omega) (by decide) d_Md_lay_96 ?_
          refine xr_iinc C d_Md_lay_97 (by decide) rfl ?_
          refine xr_goto (tgt := 13) C d_Md_lay_100 (by decide) ?_
          refine ih _ _ _ ((sFs S x).toNat :: (sSn S x).toNat :: r) (dn ++ [x]) (n + 1) (h + 1) _ ?_ rfl rfl (fun k h1 h2 => (va_ne h1).trans ((va_ne h1).trans ((va_ne h2).trans (hfr k h1 h2)))) ⟨va_eq, (va_ne (by omega)).trans va_eq, TD_up (TD_up hTD.2 (Nat.le_refl _)) (by omega)⟩ (by rw [hn]; exact DN_add hDN) ?_ (fun y hy => ?_) (by rw [List.length_append, hn]; rfl) (by first | omega | (simp only [List.length_cons]; omega)) hl0 hl2 hl3 rfl (by show some (Value.int (zI ((h : Int) + -1 + 1 + 1))) = _; rw [show ((h : Int) + -1 + 1 + 1) = ((h + 1 : Nat) : Int) by omega])
          · rw [List.flatMap_cons, ly_2 (S := S) (x := x) (by omega) (by omega)] at hm
            simp only [List.flatMap_cons, List.length_append, List.length_cons, List.length_nil] at hm ⊢
            omega
          · rw [← hcat, show (x :: r).flatMap (lyS S) = lyS S x ++ r.flatMap (lyS S) from List.flatMap_cons, ly_2 (S := S) (x := x) (by omega) (by omega)]
            simp
          · rcases List.mem_cons.mp hy with rfl | hy
            · omega
            · rcases List.mem_cons.mp hy with rfl | hy
              · omega
              · exact hall y (List.mem_cons_of_mem _ hy)
  refine xr_iconst C d_Md_lay_0 ?_
  refine xr_istore C d_Md_lay_1 (by decide) ?_
  refine xr_iconst C d_Md_lay_3 ?_
  refine xr_istore C d_Md_lay_4 (by decide) ?_
  refine xr_aload_n C 0 d_Md_lay_6 rfl rfl ?_
  refine xr_get (k := 29) C xg_Md_62 hw29 (by decide) rfl d_Md_lay_7 ?_
  refine xr_iconst C d_Md_lay_10 ?_
  refine xr_iload_n C 1 d_Md_lay_11 rfl rfl ?_
  refine xj_iast (k := 47) C (0) (by omega) hw47 (by decide) (by omega) (by decide) d_Md_lay_12 ?_
  refine lp ((lyS S t).length + 1) _ (va_up td0 0 (t : Int)) f0 [t] [] 0 1 _ (by simp) rfl hw46 (fun k h1 h2 => va_ne h1) ⟨va_eq, trivial⟩ (fun i x hx => by simp at hx) (by simp) (fun y hy => by rw [List.mem_singleton.mp hy]; exact ht) rfl rfl rfl rfl rfl rfl rfl
