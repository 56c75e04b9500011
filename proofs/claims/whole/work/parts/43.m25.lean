/-- the rows that the reference's runs write -/
def MG (cA : Nat → ClassId) (w : Nat → va_E) : Prop := (∃ f, w 44 = xIA (cA 0) 1001 f) ∧ (∃ f, w 45 = xIA (cA 0) 1001 f) ∧ (∃ f, w 46 = xIA (cA 0) 1001 f) ∧ (∃ f, w 47 = xIA (cA 0) 1100 f) ∧ (∃ f, w 48 = xIA (cA 0) 6 f) ∧ (∃ f, w 49 = xIA (cA 0) 1100 f) ∧ (∃ f, w 52 = xIA (cA 1) 1001 f) ∧ (∃ f, w 53 = xIA (cA 0) 1002 f)
theorem mg_fr {cA : Nat → ClassId} {w w' : Nat → va_E} (h : MG cA w) (hf : ∀ k, 44 ≤ k → k ≤ 53 → w' k = w k) : MG cA w' := by
  obtain ⟨⟨a, ha⟩, ⟨b, hb⟩, ⟨c, hc⟩, ⟨d, hd⟩, ⟨e, he⟩, ⟨f, hf9⟩, ⟨g, hg⟩, ⟨i, hi⟩⟩ := h
  exact ⟨⟨a, (hf 44 (by decide) (by decide)).trans ha⟩, ⟨b, (hf 45 (by decide) (by decide)).trans hb⟩, ⟨c, (hf 46 (by decide) (by decide)).trans hc⟩, ⟨d, (hf 47 (by decide) (by decide)).trans hd⟩, ⟨e, (hf 48 (by decide) (by decide)).trans he⟩, ⟨f, (hf 49 (by decide) (by decide)).trans hf9⟩, ⟨g, (hf 52 (by decide) (by decide)).trans hg⟩, ⟨i, (hf 53 (by decide) (by decide)).trans hi⟩⟩
theorem ma_cut {S : xS} {sg fs sn wt pl dp ho : Nat → Int} {n : Nat} (h : MA S sg fs sn wt pl dp ho) (hn : n ≤ sN S) : MA (cut S n) sg fs sn wt pl dp ho := by
  refine ⟨fun j hj => h.1 j ?_, h.2⟩
  have : j < n := hj
  omega
set_option maxHeartbeats 4000000 in
set_option maxRecDepth 100000 in
theorem m_Md_go {L : Launch} {D : va_G} {cA : Nat → ClassId} {base : Nat} {ad : Nat → Nat} {w : Nat → va_E} {S : xS} {n : Nat} {ro sp nr ns th : Int} {se fa so : Bool} (hMT : MT ad cA w S (n : Int) ro sp nr ns th se fa so) (hT : Tb S) {rl rr : Nat → Int} (hn : n ≤ 16) (hw37 : w 37 = xIA (cA 0) 16 rl) (hw38 : w 38 = xIA (cA 0) 16 rr) (hR : RG S n rl rr) {f : Nat → Int} {us : Nat → Bool} (hw54 : w 54 = xIA (cA 1) 16 f) (hus : ∀ r, r < n → f r = xb (us r)) (hG : MG cA w) {f43 : Nat → Int} (hw43 : w 43 = xIA (cA 0) 800 f43) {t M : Nat} {most : Int} (ht : t < sN S) (hmost : (most = (M : Int) ∧ M ≤ 200) ∨ (most = -1 ∧ M = 1000 ∧ ∀ r, r < n → us r = true → abv S (rl r).toNat (rr r).toNat = true)) : XM L D cA base y_Md_go c_Md_go 9 (some .int) (xrm 5 0 0) [.ref (ad 29), .int (zI (t : Int)), .int (zI most)] 56 ad w (xRet 56 ad (fun v w' => ∃ (z : Int) (S' : xS) (acc : List (Nat × Nat × Nat × Nat)), (z, S', acc) = runS n rl rr us M S t [] ∧ Tb S' ∧ xt S S' ∧ -1 ≤ z ∧ z < sN S' ∧ MG cA w' ∧ (∃ f, w' 43 = xIA (cA 0) 800 f ∧ RWS f acc) ∧ (∀ k, (k < 29 ∨ 36 < k) → k ≠ 43 → (k < 44 ∨ 49 < k) → k ≠ 52 → k ≠ 53 → w' k = w k) ∧ ((0 ≤ z ∧ v = z ∧ MT ad cA w' S' (n : Int) ro sp ((min 200 acc.length : Nat) : Int) (acc.length : Int) th se false (decide (fnS S' (lowR S' n rl us) z.toNat ≠ -1))) ∨ (z < 0 ∧ ∃ nr ns : Int, MT ad cA w' (cut S' (sN S)) (n : Int) ro sp nr ns th se true so)))) xF := by
  refine xm_of (by decide +kernel) (by simp [Value.category]) (Nat.le_of_ble_eq_true rfl) (fun G C E _ => ?_)
  obtain ⟨sg, fs, sn, wt, pl, dp, ho, hw29, hw30, hw31, hw32, hw33, hw34, hw35, hw36, hA⟩ := id hMT
  have hN := hT.1
  obtain ⟨⟨g4, hw44⟩, ⟨g5, hw45⟩, ⟨g6, hw46⟩, ⟨g7, hw47⟩, ⟨g8, hw48⟩, ⟨g9, hw49⟩, ⟨m2, hw52⟩, ⟨h3, hw53⟩⟩ := hG
  have hw37Z := hw37
  have hw38Z := hw38
  have hw54Z := hw54
  have F : ∀ (S1 : xS) (w1 : Nat → va_E) (x p : Int) (acc : List (Nat × Nat × Nat × Nat)) (lv : Nat → Option Value), MT ad cA w1 S1 (n : Int) ro sp ((min 200 acc.length : Nat) : Int) (acc.length : Int) th se true so → Tb S1 → xt S S1 → (-1, S1, acc) = runS n rl rr us M S t [] → acc.length ≤ 1000 → MG cA w1 → (∃ f, w1 43 = xIA (cA 0) 800 f ∧ RWS f acc) → (∀ k, (k < 29 ∨ 36 < k) → k ≠ 43 → (k < 44 ∨ 49 < k) → k ≠ 52 → k ≠ 53 → w1 k = w k) → (-1 ≤ p ∧ p ≤ 1001) → lv 0 = some (.ref (ad 29)) → lv 2 = some (.int (zI most)) → lv 3 = some (.int (zI (sN S : Int))) → lv 4 = some (.int (zI x)) → lv 5 = some (.int (zI p)) → XW G 56 ad w1 0 0 31 lv [] := by
    intro S1 w1 x p acc lv hMT1 hT1 hx1 hres hal hMG hw43 hfr hp9 hq0 hq2 hq3 hq4 hq5
    obtain ⟨sg, fs, sn, wt, pl, dp, ho, hw29, hw30, hw31, hw32, hw33, hw34, hw35, hw36, hA⟩ := id hMT1
    have hNN := hx1.1
    refine xr_iload C d_Md_go_31 hq5 ?_
    refine xr_iconst C d_Md_go_33 ?_
    refine xz_icmp_eq (tgt := 128) C d_Md_go_34 (by decide) (by omega) (by omega) (fun c34 => ?_) (fun c34 => ?_)
    · skip
      refine xr_aload_n C 0 d_Md_go_128 rfl hq0 ?_
      refine xr_get (k := 29) C xg_Md_97 hw29 (by decide) rfl d_Md_go_129 ?_
      refine xb_if_eq (tgt := 143) C d_Md_go_132 (by decide)  (fun c132 => by exfalso; exact absurd c132 (by decide)) (fun c132 => ?_)
      refine xr_aload_n C 0 d_Md_go_135 rfl hq0 ?_
      refine xr_iload_n C 3 d_Md_go_136 rfl hq3 ?_
      refine xr_put (k := 29) C xf_Md_90 hw29 (by decide) rfl rfl (Nat.le_of_ble_eq_true rfl) d_Md_go_137 ?_
      refine xr_goto (tgt := 158) C d_Md_go_140 (by decide) ?_
      refine xr_iload C d_Md_go_158 hq4 ?_
      exact xr_iret C E ⟨rfl, rfl, _, rfl, -1, S1, acc, hres, hT1, hx1, by omega, by omega, mg_fr hMG (fun k a b => va_ne (by omega)), (by obtain ⟨f, a, b⟩ := hw43; exact ⟨f, (va_ne (by decide)).trans a, b⟩), fun k a b c d e => (va_ne (by omega)).trans (hfr k a b c d e), Or.inr ⟨by omega, _, _, ⟨sg, fs, sn, wt, pl, dp, ho, rfl, hw30, hw31, hw32, hw33, hw34, hw35, hw36, ma_cut hA hNN⟩⟩⟩ (by decide) (by decide) d_Md_go_160
    · skip
      refine xr_aload_n C 0 d_Md_go_37 rfl hq0 ?_
      refine xr_get (k := 29) C xg_Md_147 hw29 (by decide) rfl d_Md_go_38 ?_
      refine xr_iload_n C 2 d_Md_go_41 rfl hq2 ?_
      refine xz_icmp_eq (tgt := 128) C d_Md_go_42 (by decide) (by omega) (by omega) (fun c42 => ?_) (fun c42 => ?_)
      · skip
        refine xr_aload_n C 0 d_Md_go_128 rfl hq0 ?_
        refine xr_get (k := 29) C xg_Md_97 hw29 (by decide) rfl d_Md_go_129 ?_
        refine xb_if_eq (tgt := 143) C d_Md_go_132 (by decide)  (fun c132 => by exfalso; exact absurd c132 (by decide)) (fun c132 => ?_)
        refine xr_aload_n C 0 d_Md_go_135 rfl hq0 ?_
        refine xr_iload_n C 3 d_Md_go_136 rfl hq3 ?_
        refine xr_put (k := 29) C xf_Md_90 hw29 (by decide) rfl rfl (Nat.le_of_ble_eq_true rfl) d_Md_go_137 ?_
        refine xr_goto (tgt := 158) C d_Md_go_140 (by decide) ?_
        refine xr_iload C d_Md_go_158 hq4 ?_
        exact xr_iret C E ⟨rfl, rfl, _, rfl, -1, S1, acc, hres, hT1, hx1, by omega, by omega, mg_fr hMG (fun k a b => va_ne (by omega)), (by obtain ⟨f, a, b⟩ := hw43; exact ⟨f, (va_ne (by decide)).trans a, b⟩), fun k a b c d e => (va_ne (by omega)).trans (hfr k a b c d e), Or.inr ⟨by omega, _, _, ⟨sg, fs, sn, wt, pl, dp, ho, rfl, hw30, hw31, hw32, hw33, hw34, hw35, hw36, ma_cut hA hNN⟩⟩⟩ (by decide) (by decide) d_Md_go_160
      · skip
        refine xr_aload_n C 0 d_Md_go_45 rfl hq0 ?_
        refine xr_get (k := 29) C xg_Md_97 hw29 (by decide) rfl d_Md_go_46 ?_
        refine xb_if_ne (tgt := 128) C d_Md_go_49 (by decide)  (fun c49 => ?_) (fun c49 => by exfalso; exact absurd c49 (by decide))
        refine xr_aload_n C 0 d_Md_go_128 rfl hq0 ?_
        refine xr_get (k := 29) C xg_Md_97 hw29 (by decide) rfl d_Md_go_129 ?_
        refine xb_if_eq (tgt := 143) C d_Md_go_132 (by decide)  (fun c132 => by exfalso; exact absurd c132 (by decide)) (fun c132 => ?_)
        refine xr_aload_n C 0 d_Md_go_135 rfl hq0 ?_
        refine xr_iload_n C 3 d_Md_go_136 rfl hq3 ?_
        refine xr_put (k := 29) C xf_Md_90 hw29 (by decide) rfl rfl (Nat.le_of_ble_eq_true rfl) d_Md_go_137 ?_
        refine xr_goto (tgt := 158) C d_Md_go_140 (by decide) ?_
        refine xr_iload C d_Md_go_158 hq4 ?_
        exact xr_iret C E ⟨rfl, rfl, _, rfl, -1, S1, acc, hres, hT1, hx1, by omega, by omega, mg_fr hMG (fun k a b => va_ne (by omega)), (by obtain ⟨f, a, b⟩ := hw43; exact ⟨f, (va_ne (by decide)).trans a, b⟩), fun k a b c d e => (va_ne (by omega)).trans (hfr k a b c d e), Or.inr ⟨by omega, _, _, ⟨sg, fs, sn, wt, pl, dp, ho, rfl, hw30, hw31, hw32, hw33, hw34, hw35, hw36, ma_cut hA hNN⟩⟩⟩ (by decide) (by decide) d_Md_go_160
  have E1 : ∀ (S1 : xS) (w1 : Nat → va_E) (x : Nat) (p : Int) (acc : List (Nat × Nat × Nat × Nat)) (lv : Nat → Option Value), MT ad cA w1 S1 (n : Int) ro sp ((min 200 acc.length : Nat) : Int) (acc.length : Int) th se false so → Tb S1 → xt S S1 → x < sN S1 → ((x : Int), S1, acc) = runS n rl rr us M S t [] → MG cA w1 → (∃ f, w1 43 = xIA (cA 0) 800 f ∧ RWS f acc) → (∀ k, (k < 29 ∨ 36 < k) → k ≠ 43 → (k < 44 ∨ 49 < k) → k ≠ 52 → k ≠ 53 → w1 k = w k) → (-1 ≤ p ∧ p ≤ 1001) → (p = -1 ↔ fnS S1 (lowR S1 n rl us) x = -1) → lv 0 = some (.ref (ad 29)) → lv 4 = some (.int (zI (x : Int))) → lv 5 = some (.int (zI p)) → XW G 56 ad w1 0 0 128 lv [] := by
    intro S1 w1 x p acc lv hMT1 hT1 hx1 hxN hres hMG hw43 hfr hp9 hpc hq0 hq4 hq5
    obtain ⟨sg, fs, sn, wt, pl, dp, ho, hw29, hw30, hw31, hw32, hw33, hw34, hw35, hw36, hA⟩ := id hMT1
    refine xr_aload_n C 0 d_Md_go_128 rfl hq0 ?_
    refine xr_get (k := 29) C xg_Md_97 hw29 (by decide) rfl d_Md_go_129 ?_
    refine xb_if_eq (tgt := 143) C d_Md_go_132 (by decide)  (fun c132 => ?_) (fun c132 => by exfalso; exact absurd c132 (by decide))
    refine xr_aload_n C 0 d_Md_go_143 rfl hq0 ?_
    refine xr_iload C d_Md_go_144 hq5 ?_
    refine xr_iconst C d_Md_go_146 ?_
    refine xz_icmp_eq (tgt := 154) C d_Md_go_147 (by decide) (by omega) (by omega) (fun c147 => ?_) (fun c147 => ?_)
    · skip
      refine xr_iconst C d_Md_go_154 ?_
      refine xr_put (k := 29) C xf_Md_167 hw29 (by decide) (by decide) (by decide) (Nat.le_of_ble_eq_true rfl) d_Md_go_155 ?_
      refine xr_iload C d_Md_go_158 hq4 ?_
      exact xr_iret C E (by
        first
        | exact ⟨rfl, rfl, _, rfl, (x : Int), S1, acc, hres, hT1, hx1, by omega, by omega, mg_fr hMG (fun k a b => va_ne (by omega)), (by obtain ⟨f, a, b⟩ := hw43; exact ⟨f, (va_ne (by decide)).trans a, b⟩), fun k a b c d e => (va_ne (by omega)).trans (hfr k a b c d e), Or.inl ⟨by omega, rfl, ⟨sg, fs, sn, wt, pl, dp, ho, by rw [Int.toNat_natCast, decide_eq_true (p := fnS S1 (lowR S1 n rl us) x ≠ -1) (fun e => c147 (hpc.mpr e))]; rfl, hw30, hw31, hw32, hw33, hw34, hw35, hw36, hA⟩⟩⟩
        | exact ⟨rfl, rfl, _, rfl, (x : Int), S1, acc, hres, hT1, hx1, by omega, by omega, mg_fr hMG (fun k a b => va_ne (by omega)), (by obtain ⟨f, a, b⟩ := hw43; exact ⟨f, (va_ne (by decide)).trans a, b⟩), fun k a b c d e => (va_ne (by omega)).trans (hfr k a b c d e), Or.inl ⟨by omega, rfl, ⟨sg, fs, sn, wt, pl, dp, ho, by rw [Int.toNat_natCast, decide_eq_false (p := fnS S1 (lowR S1 n rl us) x ≠ -1) (fun e => e (hpc.mp c147))]; rfl, hw30, hw31, hw32, hw33, hw34, hw35, hw36, hA⟩⟩⟩) (by decide) (by decide) d_Md_go_160
    · skip
      refine xr_iconst C d_Md_go_150 ?_
      refine xr_goto (tgt := 155) C d_Md_go_151 (by decide) ?_
      refine xr_put (k := 29) C xf_Md_167 hw29 (by decide) (by decide) (by decide) (Nat.le_of_ble_eq_true rfl) d_Md_go_155 ?_
      refine xr_iload C d_Md_go_158 hq4 ?_
      exact xr_iret C E (by
        first
        | exact ⟨rfl, rfl, _, rfl, (x : Int), S1, acc, hres, hT1, hx1, by omega, by omega, mg_fr hMG (fun k a b => va_ne (by omega)), (by obtain ⟨f, a, b⟩ := hw43; exact ⟨f, (va_ne (by decide)).trans a, b⟩), fun k a b c d e => (va_ne (by omega)).trans (hfr k a b c d e), Or.inl ⟨by omega, rfl, ⟨sg, fs, sn, wt, pl, dp, ho, by rw [Int.toNat_natCast, decide_eq_true (p := fnS S1 (lowR S1 n rl us) x ≠ -1) (fun e => c147 (hpc.mpr e))]; rfl, hw30, hw31, hw32, hw33, hw34, hw35, hw36, hA⟩⟩⟩
        | exact ⟨rfl, rfl, _, rfl, (x : Int), S1, acc, hres, hT1, hx1, by omega, by omega, mg_fr hMG (fun k a b => va_ne (by omega)), (by obtain ⟨f, a, b⟩ := hw43; exact ⟨f, (va_ne (by decide)).trans a, b⟩), fun k a b c d e => (va_ne (by omega)).trans (hfr k a b c d e), Or.inl ⟨by omega, rfl, ⟨sg, fs, sn, wt, pl, dp, ho, by rw [Int.toNat_natCast, decide_eq_false (p := fnS S1 (lowR S1 n rl us) x ≠ -1) (fun e => e (hpc.mp c147))]; rfl, hw30, hw31, hw32, hw33, hw34, hw35, hw36, hA⟩⟩⟩) (by decide) (by decide) d_Md_go_160
  have lp : ∀ (m : Nat) (S1 : xS) (x : Nat) (acc : List (Nat × Nat × Nat × Nat)) (w1 : Nat → va_E) (Z g : Nat → Int) (lv : Nat → Option Value), MT ad cA w1 S1 (n : Int) ro sp ((min 200 acc.length : Nat) : Int) (acc.length : Int) th se false so → Tb S1 → xt S S1 → x < sN S1 → runS n rl rr us m S1 x acc = runS n rl rr us M S t [] → ((most = (M : Int) ∧ acc.length + m = M ∧ M ≤ 200) ∨ (most = -1 ∧ acc.length + m = 1000 ∧ CHN S1 x acc)) → w1 44 = xIA (cA 0) 1001 Z → DN Z (lyS S1 x) → w1 45 = xIA (cA 0) 1001 g → ARD S1 x g (lyS S1 x).length → (∃ q, w1 46 = xIA (cA 0) 1001 q) → (∃ q, w1 47 = xIA (cA 0) 1100 q) → (∃ q, w1 48 = xIA (cA 0) 6 q) → (∃ q, w1 49 = xIA (cA 0) 1100 q) → (∃ q, w1 52 = xIA (cA 1) 1001 q) → (∃ q, w1 53 = xIA (cA 0) 1002 q) → (∃ f, w1 43 = xIA (cA 0) 800 f ∧ RWS f acc) → (∀ k, (k < 29 ∨ 36 < k) → k ≠ 43 → (k < 44 ∨ 49 < k) → k ≠ 52 → k ≠ 53 → w1 k = w k) → lv 0 = some (.ref (ad 29)) → lv 2 = some (.int (zI most)) → lv 3 = some (.int (zI (sN S : Int))) → lv 4 = some (.int (zI (x : Int))) → lv 5 = some (.int (zI (plS S1 n rl us x))) → XW G 56 ad w1 0 0 31 lv [] := by
    intro m
    induction m with
    | zero =>
      intro S1 x acc w1 Z g lv hMT1 hT1 hx1 hxN hres hm hw44 hDZ hw45 hARD hw46 hw47 hw48 hw49 hw52 hw53 hw43 hfr hq0 hq2 hq3 hq4 hq5
      obtain ⟨sg, fs, sn, wt, pl, dp, ho, hw29, hw30, hw31, hw32, hw33, hw34, hw35, hw36, hA⟩ := id hMT1
      have hN1 := hT1.1
      have hR1 := rg_xt hx1 hR
      have hal : acc.length ≤ 1000 := by rcases hm with ⟨_, h, _⟩ | ⟨_, h, _⟩ <;> omega
      have hmost9 : -1 ≤ most ∧ most ≤ 200 := by rcases hm with ⟨h, h2, h3⟩ | ⟨h, _⟩ <;> omega
      have hlx := lyS_len hT1 hxN
      have hpx := (hT1.2.1 x hxN).2.2.2.2.2
      have hw37 := (hfr 37 (by omega) (by omega) (by omega) (by omega) (by omega)).trans hw37
      have hw38 := (hfr 38 (by omega) (by omega) (by omega) (by omega) (by omega)).trans hw38
      have hw54 := (hfr 54 (by omega) (by omega) (by omega) (by omega) (by omega)).trans hw54
      have hMG : MG cA w1 := ⟨⟨Z, hw44⟩, ⟨g, hw45⟩, hw46, hw47, hw48, hw49, hw52, hw53⟩
      by_cases hc : fnS S1 (lowR S1 n rl us) x = -1
      · have hq5 : lv 5 = some (.int (zI (-1))) := by rw [hq5]; unfold plS; rw [if_pos hc]
        refine xr_iload C d_Md_go_31 hq5 ?_
        refine xr_iconst C d_Md_go_33 ?_
        refine xz_icmp_eq (tgt := 128) C d_Md_go_34 (by decide) (by omega) (by omega) (fun c34 => ?_) (fun c34 => by exfalso; omega)
        exact E1 S1 _ x (-1) acc _ hMT1 hT1 hx1 hxN (by rw [← run_0 (m := 0) hc]; exact hres) hMG hw43 hfr ⟨by omega, by omega⟩ ⟨fun _ => hc, fun _ => rfl⟩ hq0 hq4 hq5
      · have hq5 : lv 5 = some (.int (zI ((skT S1 n rl us x).2.2 : Int))) := by rw [hq5]; unfold plS; rw [if_neg hc]
        obtain ⟨g1, g2, g3, g4, g5, g6, g7, g8, g9⟩ := stp_at hT1 hR1 hxN hc
        have hat := PT_at hT1 hxN g1
        have hatl := (List.getElem?_eq_some_iff.mp hat).1
        obtain ⟨⟨a1, a2, a3⟩, ⟨b1, b2⟩, -⟩ := hR1 _ g5
        refine xr_iload C d_Md_go_31 hq5 ?_
        refine xr_iconst C d_Md_go_33 ?_
        refine xz_icmp_eq (tgt := 128) C d_Md_go_34 (by decide) (by omega) (by omega) (fun c34 => by exfalso; omega) (fun c34 => ?_)
        refine xr_aload_n C 0 d_Md_go_37 rfl hq0 ?_
        refine xr_get (k := 29) C xg_Md_147 hw29 (by decide) rfl d_Md_go_38 ?_
        refine xr_iload_n C 2 d_Md_go_41 rfl hq2 ?_
        refine xz_icmp_eq (tgt := 128) C d_Md_go_42 (by decide) (by omega) (by omega) (fun c42 => ?_) (fun c42 => by exfalso; (rcases hm with ⟨h1, h2, h3⟩ | ⟨h1, h2, h3⟩ <;> first | omega | (have := chn_len hT1 h3; omega)))
        exact E1 S1 _ x ((skT S1 n rl us x).2.2 : Int) acc _ hMT1 hT1 hx1 hxN hres hMG hw43 hfr ⟨by omega, by omega⟩ ⟨fun q => by omega, fun q => absurd q hc⟩ hq0 hq4 hq5
    | succ m ih =>
      intro S1 x acc w1 Z g lv hMT1 hT1 hx1 hxN hres hm hw44 hDZ hw45 hARD hw46 hw47 hw48 hw49 hw52 hw53 hw43 hfr hq0 hq2 hq3 hq4 hq5
      obtain ⟨sg, fs, sn, wt, pl, dp, ho, hw29, hw30, hw31, hw32, hw33, hw34, hw35, hw36, hA⟩ := id hMT1
      have hN1 := hT1.1
      have hR1 := rg_xt hx1 hR
      have hal : acc.length ≤ 1000 := by rcases hm with ⟨_, h, _⟩ | ⟨_, h, _⟩ <;> omega
      have hmost9 : -1 ≤ most ∧ most ≤ 200 := by rcases hm with ⟨h, h2, h3⟩ | ⟨h, _⟩ <;> omega
      have hlx := lyS_len hT1 hxN
      have hpx := (hT1.2.1 x hxN).2.2.2.2.2
      have hw37 := (hfr 37 (by omega) (by omega) (by omega) (by omega) (by omega)).trans hw37
      have hw38 := (hfr 38 (by omega) (by omega) (by omega) (by omega) (by omega)).trans hw38
      have hw54 := (hfr 54 (by omega) (by omega) (by omega) (by omega) (by omega)).trans hw54
      have hMG : MG cA w1 := ⟨⟨Z, hw44⟩, ⟨g, hw45⟩, hw46, hw47, hw48, hw49, hw52, hw53⟩
      by_cases hc : fnS S1 (lowR S1 n rl us) x = -1
      · have hq5 : lv 5 = some (.int (zI (-1))) := by rw [hq5]; unfold plS; rw [if_pos hc]
        refine xr_iload C d_Md_go_31 hq5 ?_
        refine xr_iconst C d_Md_go_33 ?_
        refine xz_icmp_eq (tgt := 128) C d_Md_go_34 (by decide) (by omega) (by omega) (fun c34 => ?_) (fun c34 => by exfalso; omega)
        exact E1 S1 _ x (-1) acc _ hMT1 hT1 hx1 hxN (by rw [← run_0 (m := (m + 1)) hc]; exact hres) hMG hw43 hfr ⟨by omega, by omega⟩ ⟨fun _ => hc, fun _ => rfl⟩ hq0 hq4 hq5
      · have hq5 : lv 5 = some (.int (zI ((skT S1 n rl us x).2.2 : Int))) := by rw [hq5]; unfold plS; rw [if_neg hc]
        obtain ⟨g1, g2, g3, g4, g5, g6, g7, g8, g9⟩ := stp_at hT1 hR1 hxN hc
        have hat := PT_at hT1 hxN g1
        have hatl := (List.getElem?_eq_some_iff.mp hat).1
        obtain ⟨⟨a1, a2, a3⟩, ⟨b1, b2⟩, -⟩ := hR1 _ g5
        obtain ⟨q46, hw46⟩ := hw46
        obtain ⟨q47, hw47⟩ := hw47
        obtain ⟨q48, hw48⟩ := hw48
        obtain ⟨q49, hw49⟩ := hw49
        obtain ⟨q52, hw52⟩ := hw52
        obtain ⟨q53, hw53⟩ := hw53
        obtain ⟨q43, hw43, hRW⟩ := hw43
        refine xr_iload C d_Md_go_31 hq5 ?_
        refine xr_iconst C d_Md_go_33 ?_
        refine xz_icmp_eq (tgt := 128) C d_Md_go_34 (by decide) (by omega) (by omega) (fun c34 => by exfalso; omega) (fun c34 => ?_)
        refine xr_aload_n C 0 d_Md_go_37 rfl hq0 ?_
        refine xr_get (k := 29) C xg_Md_147 hw29 (by decide) rfl d_Md_go_38 ?_
        refine xr_iload_n C 2 d_Md_go_41 rfl hq2 ?_
        refine xz_icmp_eq (tgt := 128) C d_Md_go_42 (by decide) (by omega) (by omega) (fun c42 => by exfalso; (rcases hm with ⟨h1, h2, h3⟩ | ⟨h1, h2, h3⟩ <;> omega)) (fun c42 => ?_)
        refine xr_aload_n C 0 d_Md_go_45 rfl hq0 ?_
        refine xr_get (k := 29) C xg_Md_97 hw29 (by decide) rfl d_Md_go_46 ?_
        refine xb_if_ne (tgt := 128) C d_Md_go_49 (by decide)  (fun c49 => by exfalso; exact absurd c49 (by decide)) (fun c49 => ?_)
        refine xr_aload_n C 0 d_Md_go_52 rfl hq0 ?_
        refine xr_iload C d_Md_go_53 hq5 ?_
        refine xr_callV (k9 := 29) C (m_Md_ruleAt (w := w1) hMT1 hT1 hn hw37 hw38 hR1 hxN hw44 hDZ (pos := (skT S1 n rl us x).2.2) hat hw46 hw47 hw48 hw54 hus) xm_Md_144 x2_Md_ruleAt hw29 (by decide) rfl (by decide) (by decide) (Nat.le_of_ble_eq_true rfl) rfl d_Md_go_55 (fun En n9 ad9 w9 hx9 => hx9.elim) (fun v n9 ad9 w9 hp => ?_)
        obtain ⟨rfl, rfl, z0, rfl, hz0, ⟨γ, hw48', hγ⟩, ⟨h6, hw46'⟩, ⟨h7, hw47'⟩, hfr'⟩ := hp
        have hz0 := hz0.trans g4
        have hγ9 := hγ _ hz0 _ g7
        have hw29 := (hfr' 29 (by decide) (by decide) (by decide)).trans hw29
        have hw38 := (hfr' 38 (by decide) (by decide) (by decide)).trans hw38
        have hw43 := (hfr' 43 (by decide) (by decide) (by decide)).trans hw43
        have hw44 := (hfr' 44 (by decide) (by decide) (by decide)).trans hw44
        have hw45 := (hfr' 45 (by decide) (by decide) (by decide)).trans hw45
        have hw49 := (hfr' 49 (by decide) (by decide) (by decide)).trans hw49
        have hw52 := (hfr' 52 (by decide) (by decide) (by decide)).trans hw52
        have hw53 := (hfr' 53 (by decide) (by decide) (by decide)).trans hw53
        show XW _ _ _ _ _ _ 58 _ (_ :: _)
        refine xr_eqz (y := (ruT S1 n rl us x : Int)) hz0 ?_
        refine xr_istore C d_Md_go_58 (by decide) ?_
        refine xr_aload_n C 0 d_Md_go_60 rfl hq0 ?_
        refine xr_aload_n C 0 d_Md_go_61 rfl hq0 ?_
        refine xr_get (k := 29) C xg_Md_34 hw29 (by decide) rfl d_Md_go_62 ?_
        refine xr_iload C d_Md_go_65 rfl ?_
        refine xj_iald (k := 38) C (ruT S1 n rl us x) (by omega) hw38 (by decide) (by omega) (by decide) d_Md_go_67 ?_
        refine xr_eqz (y := (((rr (ruT S1 n rl us x)).toNat : Nat) : Int)) (by omega) ?_
        refine xr_callV (k9 := 29) C (m_Md_build (S := S1) (β := bdT S1 n rl us x) (γ := γ) (r := (rr (ruT S1 n rl us x)).toNat) (mt_fr hMT1 (fun k a b => hfr' k (by omega) (by omega) (by omega))) hT1 (by omega) hγ9 g8 hw48' hw47' hw49) xm_Md_156 x2_Md_build hw29 (by decide) rfl (by decide) (by decide) (Nat.le_of_ble_eq_true rfl) rfl d_Md_go_68 (fun En n9 ad9 w9 hx9 => hx9.elim) (fun v n9 ad9 w9 hp => ?_)
        obtain ⟨rfl, rfl, v, rfl, S2, e2, hMT2, ⟨q7, hw47''⟩, ⟨q9, hw49'⟩, hfr2⟩ := hp
        have e2 : (v, S2) = byT S1 n rl rr us x := e2
        obtain ⟨k1, k2, k3, k4⟩ := bld_ok hT1 _ S1 v S2 (by omega) hT1 (xt_refl S1) g8 e2
        obtain ⟨tr2, hw29⟩ : ∃ tr, w9 29 = mdO ad tr (n : Int) ro sp ((min 200 acc.length : Nat) : Int) (acc.length : Int) th se (decide (v < 0)) so := by obtain ⟨sg, fs, sn, wt, pl, dp, ho, hw29, hw30, hw31, hw32, hw33, hw34, hw35, hw36, hA⟩ := id hMT2; exact ⟨_, hw29⟩
        have hw43 := (hfr2 43 (by omega) (by omega) (by omega)).trans hw43
        have hw44 := (hfr2 44 (by omega) (by omega) (by omega)).trans hw44
        have hw45 := (hfr2 45 (by omega) (by omega) (by omega)).trans hw45
        have hw52 := (hfr2 52 (by omega) (by omega) (by omega)).trans hw52
        have hw53 := (hfr2 53 (by omega) (by omega) (by omega)).trans hw53
        have hw46'' := (hfr2 46 (by omega) (by omega) (by omega)).trans hw46'
        have hw48'' := (hfr2 48 (by omega) (by omega) (by omega)).trans hw48'
        have hfrB : (∀ k, (k < 29 ∨ 36 < k) → k ≠ 43 → (k < 44 ∨ 49 < k) → k ≠ 52 → k ≠ 53 → w9 k = w k) := fun k a b c d e => (hfr2 k a (by omega) (by omega)).trans ((hfr' k (by omega) (by omega) (by omega)).trans (hfr k a b c d e))
        show XW _ _ _ _ _ _ 71 _ (_ :: _)
        refine xr_istore C d_Md_go_71 (by decide) ?_
        refine xr_aload_n C 0 d_Md_go_73 rfl hq0 ?_
        refine xr_get (k := 29) C xg_Md_97 hw29 (by decide) rfl d_Md_go_74 ?_
        refine xb_if_eq (tgt := 84) C d_Md_go_77 (by decide)  (fun c77 => ?_) (fun c77 => ?_)
        · skip
          have hv : ¬ v < 0 := of_decide_eq_false c77
          rw [decide_eq_false hv] at hMT2
          refine xr_aload_n C 0 d_Md_go_84 rfl hq0 ?_
          refine xr_iload C d_Md_go_85 hq5 ?_
          refine xr_iload C d_Md_go_87 rfl ?_
          refine xr_callV (k9 := 29) C (m_Md_replace (S := S1) (S0 := S2) hMT2 hT1 k1 k2 hxN g1 hw44 hDZ hw45 hARD (v0 := v) (by omega)) xm_Md_159 x2_Md_replace hw29 (by decide) rfl (by decide) (by decide) (Nat.le_of_ble_eq_true rfl) rfl d_Md_go_89 (fun En n9 ad9 w9 hx9 => hx9.elim) (fun v n9 ad9 w9 hp => ?_)
          obtain ⟨rfl, rfl, z, rfl, S3, e3, hMT3, hfr3⟩ := hp
          have hstp : (z, S3) = stp S1 n rl rr us x := by unfold stp; rw [← e2, if_neg hv]; exact e3
          obtain ⟨s1, s2, s3, s4⟩ := stp_ok hT1 hR1 hxN hc hstp
          have hN3 := s1.1
          obtain ⟨tr3, hw29⟩ : ∃ tr, w9 29 = mdO ad tr (n : Int) ro sp ((min 200 acc.length : Nat) : Int) (acc.length : Int) th se (decide (z < 0)) so := by obtain ⟨sg, fs, sn, wt, pl, dp, ho, hw29, hw30, hw31, hw32, hw33, hw34, hw35, hw36, hA⟩ := id hMT3; exact ⟨_, hw29⟩
          have hw43 := (hfr3 43 (by omega)).trans hw43
          have hw44 := (hfr3 44 (by omega)).trans hw44
          have hw45 := (hfr3 45 (by omega)).trans hw45
          have hw52 := (hfr3 52 (by omega)).trans hw52
          have hw53 := (hfr3 53 (by omega)).trans hw53
          have hw46x := (hfr3 46 (by omega)).trans hw46''
          have hw48x := (hfr3 48 (by omega)).trans hw48''
          have hw47x := (hfr3 47 (by omega)).trans hw47''
          have hw49x := (hfr3 49 (by omega)).trans hw49'
          have hfrC : (∀ k, (k < 29 ∨ 36 < k) → k ≠ 43 → (k < 44 ∨ 49 < k) → k ≠ 52 → k ≠ 53 → w9 k = w k) := fun k a b c d e => (hfr3 k a).trans (hfrB k a b c d e)
          show XW _ _ _ _ _ _ 92 _ (_ :: _)
          refine xr_istore C d_Md_go_92 (by decide) ?_
          refine xr_aload_n C 0 d_Md_go_94 rfl hq0 ?_
          refine xr_get (k := 29) C xg_Md_97 hw29 (by decide) rfl d_Md_go_95 ?_
          refine xb_if_ne (tgt := 125) C d_Md_go_98 (by decide)  (fun c98 => ?_) (fun c98 => ?_)
          · skip
            have hzn : z < 0 := of_decide_eq_true c98
            rw [decide_eq_true hzn] at hMT3
            refine xr_goto (tgt := 31) C d_Md_go_125 (by decide) ?_
            exact F S3 _ (x : Int) ((skT S1 n rl us x).2.2 : Int) acc _ hMT3 s1 (xt_trans hx1 s2) (by rw [← hres, run_f hc hstp hzn]) hal ⟨⟨Z, hw44⟩, ⟨g, hw45⟩, ⟨_, hw46x⟩, ⟨_, hw47x⟩, ⟨_, hw48x⟩, ⟨_, hw49x⟩, ⟨_, hw52⟩, ⟨_, hw53⟩⟩ ⟨q43, hw43, hRW⟩ hfrC ⟨by omega, by omega⟩ hq0 hq2 hq3 hq4 hq5
          · skip
            have hzp : ¬ z < 0 := of_decide_eq_false c98
            rw [decide_eq_false hzp] at hMT3
            refine xr_aload_n C 0 d_Md_go_101 rfl hq0 ?_
            refine xr_iload C d_Md_go_102 rfl ?_
            refine xr_iload C d_Md_go_104 hq5 ?_
            refine xr_iload C d_Md_go_106 hq4 ?_
            refine xr_iload C d_Md_go_108 rfl ?_
            refine xr_eqz (y := (z.toNat : Int)) (by omega) ?_
            refine xr_callV (k9 := 29) C (m_Md_keep (acc := acc) (r := ruT S1 n rl us x) (p := (skT S1 n rl us x).2.2) (a := x) (b := z.toNat) hMT3 hal hw43 hRW) xm_Md_163 x2_Md_keep hw29 (by decide) rfl (by decide) (by decide) (Nat.le_of_ble_eq_true rfl) rfl d_Md_go_110 (fun En n9 ad9 w9 hx9 => hx9.elim) (fun v n9 ad9 w9 hp => ?_)
            obtain ⟨rfl, rfl, rfl, hMT4, q43', hw43', hRW', hfr4⟩ := hp
            have hR3 := rg_xt s2 hR1
            have hres : runS n rl rr us m S3 z.toNat (acc ++ [(ruT S1 n rl us x, (skT S1 n rl us x).2.2, x, z.toNat)]) = _ := (run_g hc hstp hzp).symm.trans hres
            obtain ⟨tr4, hw29⟩ : ∃ tr, w9 29 = mdO ad tr (n : Int) ro sp ((min 200 (acc ++ [(ruT S1 n rl us x, (skT S1 n rl us x).2.2, x, z.toNat)]).length : Nat) : Int) ((acc ++ [(ruT S1 n rl us x, (skT S1 n rl us x).2.2, x, z.toNat)]).length : Int) th se false so := by obtain ⟨sg, fs, sn, wt, pl, dp, ho, hw29, hw30, hw31, hw32, hw33, hw34, hw35, hw36, hA⟩ := id hMT4; exact ⟨_, hw29⟩
            have hw44 := (hfr4 44 (by decide) (by decide)).trans hw44
            have hw45 := (hfr4 45 (by decide) (by decide)).trans hw45
            have hw52 := (hfr4 52 (by decide) (by decide)).trans hw52
            have hw53 := (hfr4 53 (by decide) (by decide)).trans hw53
            have hw46x := (hfr4 46 (by decide) (by decide)).trans hw46x
            have hw47x := (hfr4 47 (by decide) (by decide)).trans hw47x
            have hw48x := (hfr4 48 (by decide) (by decide)).trans hw48x
            have hw49x := (hfr4 49 (by decide) (by decide)).trans hw49x
            have hfrD : (∀ k, (k < 29 ∨ 36 < k) → k ≠ 43 → (k < 44 ∨ 49 < k) → k ≠ 52 → k ≠ 53 → w9 k = w k) := fun k a b c d e => (hfr4 k (by omega) b).trans (hfrC k a b c d e)
            have hw37 := (hfrD 37 (by omega) (by omega) (by omega) (by omega) (by omega)).trans hw37Z
            have hw38 := (hfrD 38 (by omega) (by omega) (by omega) (by omega) (by omega)).trans hw38Z
            have hw54 := (hfrD 54 (by omega) (by omega) (by omega) (by omega) (by omega)).trans hw54Z
            refine xr_iload C d_Md_go_113 rfl ?_
            refine xr_eqz (y := (z.toNat : Int)) (by omega) ?_
            refine xr_istore C d_Md_go_115 (by decide) ?_
            refine xr_aload_n C 0 d_Md_go_117 rfl hq0 ?_
            refine xr_iload C d_Md_go_118 rfl ?_
            refine xr_callV (k9 := 29) C (m_Md_placeOf (S := S3) (t := z.toNat) hMT4 s1 hn hw37 hw38 hR3 hw54 hus hw44 hw45 hw46x hw47x hw48x hw52 hw53 (by omega)) xm_Md_153 x2_Md_placeOf hw29 (by decide) rfl (by decide) (by decide) (Nat.le_of_ble_eq_true rfl) rfl d_Md_go_120 (fun En n9 ad9 w9 hx9 => hx9.elim) (fun v n9 ad9 w9 hp => ?_)
            obtain ⟨rfl, rfl, zz, rfl, rfl, Z', g', hw44', hDZ', hw45', hARD', hw46y, hw47y, hw48y, hw52y, hw53y, hfr5⟩ := hp
            show XW _ _ _ _ _ _ 123 _ (_ :: _)
            refine xr_istore C d_Md_go_123 (by decide) ?_
            refine xr_goto (tgt := 31) C d_Md_go_125 (by decide) ?_
            have hlen9 : (acc ++ [(ruT S1 n rl us x, (skT S1 n rl us x).2.2, x, z.toNat)]).length = acc.length + 1 := by rw [List.length_append, List.length_singleton]
            exact ih S3 z.toNat (acc ++ [(ruT S1 n rl us x, (skT S1 n rl us x).2.2, x, z.toNat)]) _ Z' g' _ (mt_fr hMT4 (fun k a b => hfr5 k (by omega) (by omega) (by omega) (by omega) (by omega) (by omega) (by omega))) s1 (xt_trans hx1 s2) (by omega) hres (by
              rcases hm with ⟨h1, h2, h3⟩ | ⟨h1, h2, h3⟩
              · exact Or.inl ⟨h1, by omega, h3⟩
              · exact Or.inr ⟨h1, by omega, chn_add hT1 s2 hxN h3 (stp_K hT1 hR1 (fun r hr hu => by
                  rcases hmost with ⟨e1, e2⟩ | ⟨e1, e2, e3⟩
                  · omega
                  · rw [xt_abv hT hx1 _ _ (by have := (hR r hr).1; omega) (by have := (hR r hr).2.1; omega)]
                    exact e3 r hr hu) hxN hc hstp (by omega))⟩) hw44' hDZ' hw45' hARD' hw46y hw47y hw48y ⟨_, (hfr5 49 (by decide) (by decide) (by decide) (by decide) (by decide) (by decide) (by decide)).trans hw49x⟩ hw52y hw53y ⟨q43', (hfr5 43 (by decide) (by decide) (by decide) (by decide) (by decide) (by decide) (by decide)).trans hw43', hRW'⟩ (fun k a b c d e => (hfr5 k (by omega) (by omega) (by omega) (by omega) (by omega) d e).trans (hfrD k a b c d e)) hq0 hq2 hq3 rfl rfl
        · skip
          have hv : v < 0 := of_decide_eq_true c77
          have hstp : ((-1 : Int), S2) = stp S1 n rl rr us x := by unfold stp; rw [← e2, if_pos hv]
          refine xr_iconst C d_Md_go_80 ?_
          refine xr_goto (tgt := 92) C d_Md_go_81 (by decide) ?_
          refine xr_istore C d_Md_go_92 (by decide) ?_
          refine xr_aload_n C 0 d_Md_go_94 rfl hq0 ?_
          refine xr_get (k := 29) C xg_Md_97 hw29 (by decide) rfl d_Md_go_95 ?_
          refine xb_if_ne (tgt := 125) C d_Md_go_98 (by decide)  (fun c98 => ?_) (fun c98 => by exfalso; exact absurd hv (of_decide_eq_false c98))
          refine xr_goto (tgt := 31) C d_Md_go_125 (by decide) ?_
          exact F S2 _ (x : Int) ((skT S1 n rl us x).2.2 : Int) acc _ (by rw [decide_eq_true hv] at hMT2; exact hMT2) k1 (xt_trans hx1 k2) (by rw [← hres, run_f hc hstp (by omega)]) hal ⟨⟨Z, hw44⟩, ⟨g, hw45⟩, ⟨_, hw46''⟩, ⟨_, hw47''⟩, ⟨_, hw48''⟩, ⟨_, hw49'⟩, ⟨_, hw52⟩, ⟨_, hw53⟩⟩ ⟨q43, hw43, hRW⟩ hfrB ⟨by omega, by omega⟩ hq0 hq2 hq3 hq4 hq5
  refine xr_aload_n C 0 d_Md_go_0 rfl rfl ?_
  refine xr_get (k := 29) C xg_Md_90 hw29 (by decide) rfl d_Md_go_1 ?_
  refine xr_istore_n C 3 d_Md_go_4 rfl (by decide) ?_
  refine xr_aload_n C 0 d_Md_go_5 rfl rfl ?_
  refine xr_iconst C d_Md_go_6 ?_
  refine xr_put (k := 29) C xf_Md_97 hw29 (by decide) (by decide) (by decide) (Nat.le_of_ble_eq_true rfl) d_Md_go_7 ?_
  refine xr_aload_n C 0 d_Md_go_10 rfl rfl ?_
  refine xr_iconst C d_Md_go_11 ?_
  refine xr_put (k := 29) C xf_Md_150 rfl (by decide) rfl rfl (Nat.le_of_ble_eq_true rfl) d_Md_go_12 ?_
  refine xr_aload_n C 0 d_Md_go_15 rfl rfl ?_
  refine xr_iconst C d_Md_go_16 ?_
  refine xr_put (k := 29) C xf_Md_147 rfl (by decide) rfl rfl (Nat.le_of_ble_eq_true rfl) d_Md_go_17 ?_
  refine xr_iload_n C 1 d_Md_go_20 rfl rfl ?_
  refine xr_istore C d_Md_go_21 (by decide) ?_
  refine xr_aload_n C 0 d_Md_go_23 rfl rfl ?_
  refine xr_iload C d_Md_go_24 rfl ?_
  rw [bx_uu, bx_uu]
  show XW G 56 ad (va_up w 29 (mdO ad (sN S : Int) (n : Int) ro sp 0 0 th se false so)) _ _ _ _ _
  refine xr_callV (k9 := 29) C (m_Md_placeOf (w := va_up w 29 (mdO ad (sN S : Int) (n : Int) ro sp 0 0 th se false so)) (S := S) (t := t) ⟨sg, fs, sn, wt, pl, dp, ho, rfl, hw30, hw31, hw32, hw33, hw34, hw35, hw36, hA⟩ hT hn hw37 hw38 hR hw54 hus hw44 hw45 hw46 hw47 hw48 hw52 hw53 ht) xm_Md_153 x2_Md_placeOf va_eq (by decide) rfl (by decide) (by decide) (Nat.le_of_ble_eq_true rfl) rfl d_Md_go_26 (fun En n9 ad9 w9 hx9 => hx9.elim) (fun v n9 ad9 w9 hp => ?_)
  obtain ⟨rfl, rfl, zz, rfl, rfl, Z', g', hw44', hDZ', hw45', hARD', hw46y, hw47y, hw48y, hw52y, hw53y, hfr5⟩ := hp
  show XW _ _ _ _ _ _ 29 _ (_ :: _)
  refine xr_istore C d_Md_go_29 (by decide) ?_
  exact lp M S t [] _ Z' g' _ (mt_fr (w := va_up w 29 (mdO ad (sN S : Int) (n : Int) ro sp 0 0 th se false so)) ⟨sg, fs, sn, wt, pl, dp, ho, rfl, hw30, hw31, hw32, hw33, hw34, hw35, hw36, hA⟩ (fun k a b => hfr5 k (by omega) (by omega) (by omega) (by omega) (by omega) (by omega) (by omega))) hT (xt_refl S) ht rfl (by
    rcases hmost with ⟨e1, e2⟩ | ⟨e1, e2, e3⟩
    · exact Or.inl ⟨e1, by rw [List.length_nil]; omega, e2⟩
    · exact Or.inr ⟨e1, by rw [List.length_nil]; omega, by simp [CHN]⟩) hw44' hDZ' hw45' hARD' hw46y hw47y hw48y ⟨_, (hfr5 49 (by decide) (by decide) (by decide) (by decide) (by decide) (by decide) (by decide)).trans hw49⟩ hw52y hw53y ⟨f43, (hfr5 43 (by decide) (by decide) (by decide) (by decide) (by decide) (by decide) (by decide)).trans hw43, fun i r p a b hi hg => by simp at hg⟩ (fun k a b c d e => (hfr5 k (by omega) (by omega) (by omega) (by omega) (by omega) d e).trans (va_ne (by omega))) rfl rfl rfl rfl rfl
