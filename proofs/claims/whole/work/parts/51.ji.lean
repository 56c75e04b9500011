/-! what both sides keep, together -/
def nmkB (a0 a1 a2 a3 a4 a5 b0 b1 b2 b3 b4 b5 : Bool) : Bool := !(decide (nmk (0 + (if a0 then 2 ^ 0 else 0) + (if a1 then 2 ^ 1 else 0) + (if a2 then 2 ^ 2 else 0) + (if a3 then 2 ^ 3 else 0) + (if a4 then 2 ^ 4 else 0) + (if a5 then 2 ^ 5 else 0)) (0 + (if b0 then 2 ^ 0 else 0) + (if b1 then 2 ^ 1 else 0) + (if b2 then 2 ^ 2 else 0) + (if b3 then 2 ^ 3 else 0) + (if b4 then 2 ^ 4 else 0) + (if b5 then 2 ^ 5 else 0)) = 0)) || ((!a0 || b0) && (!a1 || b1) && (!a2 || b2) && (!a3 || b3) && (!a4 || b4) && (!a5 || b5))
theorem nmkB_t : ∀ a0 a1 a2 a3 a4 a5 b0 b1 b2 b3 b4 b5 : Bool, nmkB a0 a1 a2 a3 a4 a5 b0 b1 b2 b3 b4 b5 = true := by decide +kernel
theorem nmk_sub (a0 a1 a2 a3 a4 a5 b0 b1 b2 b3 b4 b5 : Bool) (h : nmk (0 + (if a0 then 2 ^ 0 else 0) + (if a1 then 2 ^ 1 else 0) + (if a2 then 2 ^ 2 else 0) + (if a3 then 2 ^ 3 else 0) + (if a4 then 2 ^ 4 else 0) + (if a5 then 2 ^ 5 else 0)) (0 + (if b0 then 2 ^ 0 else 0) + (if b1 then 2 ^ 1 else 0) + (if b2 then 2 ^ 2 else 0) + (if b3 then 2 ^ 3 else 0) + (if b4 then 2 ^ 4 else 0) + (if b5 then 2 ^ 5 else 0)) = 0) : ((a0 = true → b0 = true) ∧ (a1 = true → b1 = true) ∧ (a2 = true → b2 = true) ∧ (a3 = true → b3 = true) ∧ (a4 = true → b4 = true) ∧ (a5 = true → b5 = true)) := by
  have k := nmkB_t a0 a1 a2 a3 a4 a5 b0 b1 b2 b3 b4 b5
  unfold nmkB at k
  rw [decide_eq_true h] at k
  simp at k
  obtain ⟨⟨⟨⟨⟨k0, k1⟩, k2⟩, k3⟩, k4⟩, k5⟩ := k
  exact ⟨fun h9 => k0.resolve_left (by rw [h9]; decide), fun h9 => k1.resolve_left (by rw [h9]; decide), fun h9 => k2.resolve_left (by rw [h9]; decide), fun h9 => k3.resolve_left (by rw [h9]; decide), fun h9 => k4.resolve_left (by rw [h9]; decide), fun h9 => k5.resolve_left (by rw [h9]; decide)⟩
theorem nmk_hb {p q : Nat → Bool} (h : nmk (hbS p 6) (hbS q 6) = 0) : ∀ i, i < 6 → p i = true → q i = true := by
  obtain ⟨h0, h1, h2, h3, h4, h5⟩ := nmk_sub (p 0) (p 1) (p 2) (p 3) (p 4) (p 5) (q 0) (q 1) (q 2) (q 3) (q 4) (q 5) h
  intro i hi
  rcases (show i = 0 ∨ i = 1 ∨ i = 2 ∨ i = 3 ∨ i = 4 ∨ i = 5 by omega) with rfl | rfl | rfl | rfl | rfl | rfl
  · exact h0
  · exact h1
  · exact h2
  · exact h3
  · exact h4
  · exact h5
theorem nmk_cnt {S : xS} (hT : Tb S) {x y : Nat} (hx : x < sN S) (hy : y < sN S) (h : nmk (sHo S y) (sHo S x) = 0) : ∀ i, i < 6 → 0 < cnt S y i → 0 < cnt S x i := by
  have ey := (hT.2.1 y hy).2.2.2.2.1
  have ex := (hT.2.1 x hx).2.2.2.2.1
  rw [ey, ex] at h
  intro i hi hc
  have := nmk_hb h i hi (decide_eq_true hc)
  exact of_decide_eq_true this
theorem run_ru {n : Nat} {rl rr : Nat → Int} {us : Nat → Bool} : ∀ (m : Nat) (S : xS) (t : Nat) (acc acc' : List (Nat × Nat × Nat × Nat)) (z : Int) (S' : xS), Tb S → RG S n rl rr → t < sN S → (∀ e ∈ acc, e.1 < n) → (z, S', acc') = runS n rl rr us m S t acc → ∀ e ∈ acc', e.1 < n := by
  intro m
  induction m with
  | zero =>
    intro S t acc acc' z S' hT hR ht ha h
    simp only [runS] at h
    cases h
    exact ha
  | succ m ih =>
    intro S t acc acc' z S' hT hR ht ha h
    rw [runS] at h
    split at h
    · cases h
      exact ha
    · rename_i hc
      obtain ⟨k1, k2, k3, k4⟩ := stp_ok hT hR ht hc (z := (stp S n rl rr us t).1) (S' := (stp S n rl rr us t).2) rfl
      split at h
      · cases h
        exact ha
      · rename_i hz
        refine ih _ _ _ _ _ _ k1 (rg_xt k2 hR) (by omega) ?_ h
        intro e he
        rcases List.mem_append.mp he with he | he
        · exact ha e he
        · rcases List.mem_cons.mp he with rfl | he
          · exact (stp_at hT hR ht hc).2.2.2.2.1
          · cases he
theorem rws_eq {f g : Nat → Int} {acc : List (Nat × Nat × Nat × Nat)} (hf : RWS f acc) (hg : RWS g acc) : ∀ j : Nat, (j : Int) < 4 * ((min 200 acc.length : Nat) : Int) → f j = g j := by
  intro j hj
  have hl : j / 4 < acc.length := by omega
  obtain ⟨⟨r, p, a, b⟩, he⟩ : ∃ e, acc[j / 4]? = some e := ⟨acc[j / 4], List.getElem?_eq_getElem hl⟩
  obtain ⟨a1, a2, a3, a4⟩ := hf _ _ _ _ _ (by omega) he
  obtain ⟨b1, b2, b3, b4⟩ := hg _ _ _ _ _ (by omega) he
  rcases (show j = j / 4 * 4 ∨ j = j / 4 * 4 + 1 ∨ j = j / 4 * 4 + 2 ∨ j = j / 4 * 4 + 3 by omega) with h | h | h | h
  · rw [h, a1, b1]
  · rw [h, a2, b2]
  · rw [h, a3, b3]
  · rw [h, a4, b4]
theorem rws_ru {f : Nat → Int} {acc : List (Nat × Nat × Nat × Nat)} {n : Nat} (hf : RWS f acc) (hn : n ≤ 16) (ha : ∀ e ∈ acc, e.1 < n) : ∀ i : Nat, (i : Int) < ((min 200 acc.length : Nat) : Int) → 0 ≤ f (i * 4) ∧ f (i * 4) < 16 := by
  intro i hi
  have hl : i < acc.length := by omega
  obtain ⟨⟨r, p, a, b⟩, he⟩ : ∃ e, acc[i]? = some e := ⟨acc[i], List.getElem?_eq_getElem hl⟩
  obtain ⟨a1, -⟩ := hf _ _ _ _ _ (by omega) he
  have := ha _ (List.mem_of_getElem? he)
  simp only at this
  rw [a1]
  omega
theorem dom_eq {f g co : Nat → Int} : ∀ k : Nat, (∀ i, i < k → f (i * 4) = g (i * 4)) → domI f co k = domI g co k := by
  intro k
  induction k with
  | zero => intro _; rfl
  | succ k ih =>
    intro h
    simp only [domI]
    rw [ih (fun i hi => h i (by omega)), h k (by omega)]
theorem xt_cut {S S' : xS} (hx : xt S S') : xt S (cut S' (sN S)) := ⟨Nat.le_refl _, fun j hj => hx.2 j hj⟩
def CJ (ad : Nat → Nat) (cA : Nat → ClassId) (w : Nat → va_E) (S : xS) (n : Nat) (rl rr co le9 ch an : Nat → Int) (kp sq : Nat) (ls : Int) (se : Bool) (sz : Int) (f : Nat → Int) : Prop :=
  w 0 = rsO ad kp sq ls se ∧ ((kp = 25 ∧ sq = 27) ∨ (kp = 27 ∧ sq = 25)) ∧ CT ad cA w S ∧ RSC ad cA w ∧ w 12 = ruO ad (n : Int) ∧ w 13 = xIA (cA 0) 16 rl ∧ w 14 = xIA (cA 0) 16 rr ∧ w 15 = xIA (cA 0) 16 co ∧ w 16 = xIA (cA 1) 16 le9 ∧ w 17 = xIA (cA 1) 16 ch ∧ w 18 = xIA (cA 0) 10 an ∧ w kp = roO ad kp sz ∧ w (kp + 1) = xIA (cA 0) 800 f ∧ ∃ (sz0 : Int) (f0 : Nat → Int), w sq = roO ad sq sz0 ∧ w (sq + 1) = xIA (cA 0) 800 f0
def MR (cA : Nat → ClassId) (w : Nat → va_E) (rl rr co ch an f42 : Nat → Int) : Prop := w 37 = xIA (cA 0) 16 rl ∧ w 38 = xIA (cA 0) 16 rr ∧ w 39 = xIA (cA 0) 16 co ∧ w 40 = xIA (cA 1) 16 ch ∧ w 41 = xIA (cA 0) 10 an ∧ w 42 = xIA (cA 0) 800 f42
def PJ (S : xS) (n : Nat) (rl rr co le9 ch an : Nat → Int) (sz : Int) (f f42 : Nat → Int) : Prop :=
  Tb S ∧ n ≤ 16 ∧ RG S n rl rr ∧ (∀ r, r < n → le9 r = xb (abv S (rl r).toNat (rr r).toNat)) ∧ (∀ j, -1 ≤ co j ∧ co j < 10) ∧ (∀ j, ch j = 0 ∨ ch j = 1) ∧ (∀ j, le9 j = 0 ∨ le9 j = 1) ∧ (∀ j, 0 ≤ an j ∧ an j ≤ 2) ∧ (0 ≤ sz ∧ sz ≤ 200) ∧ (∀ j : Nat, (j : Int) < 4 * sz → f j = f42 j) ∧ ∀ i : Nat, (i : Int) < sz → 0 ≤ f (i * 4) ∧ f (i * 4) < 16
def JS (ad : Nat → Nat) (cA : Nat → ClassId) (w : Nat → va_E) (S : xS) (n : Nat) (rl rr co le9 ch an : Nat → Int) (kp sq : Nat) (ls : Int) (se : Bool) (sz : Int) (f f42 : Nat → Int) (nr ns th : Int) (fa so : Bool) (g : Nat → Int64) : Prop :=
  CJ ad cA w S n rl rr co le9 ch an kp sq ls se sz f ∧ MT ad cA w S (n : Int) sz ls nr ns th se fa so ∧ MSC cA w ∧ MR cA w rl rr co ch an f42 ∧ PJ S n rl rr co le9 ch an sz f f42 ∧ w 55 = xLA (cA 2) 1 g
/-- between two calls of the law -/
def JI (ad : Nat → Nat) (cA : Nat → ClassId) (w : Nat → va_E) : Prop := ∃ (S : xS) (n : Nat) (rl rr co le9 ch an : Nat → Int) (kp sq : Nat) (ls : Int) (se : Bool) (sz : Int) (f f42 : Nat → Int) (nr ns th : Int) (fa so : Bool) (g : Nat → Int64), JS ad cA w S n rl rr co le9 ch an kp sq ls se sz f f42 nr ns th fa so g
/-- behind both calls: the same code, the same answer -/
def JE (ad : Nat → Nat) (cA : Nat → ClassId) (k b : Int) (w : Nat → va_E) : Prop := JI ad cA w ∧ (∃ (tr ru ro sp nr ns : Int) (se fa so : Bool), w 29 = mdO ad tr ru ro sp nr ns k se fa so) ∧ (0 ≤ k ∧ k ≤ 3) ∧ ∃ g, w 55 = xLA (cA 2) 1 g ∧ (k = 0 → g 0 = (zI b).toInt64)
section JV
variable {ad : Nat → Nat} {cA : Nat → ClassId} {w w' : Nat → va_E} {S S' : xS} {n : Nat} {rl rr co le9 ch an f f42 : Nat → Int} {kp sq : Nat} {ls sz : Int} {se : Bool} {nr ns th : Int} {fa so : Bool} {g : Nat → Int64}
theorem cj_ct (h : CJ ad cA w S n rl rr co le9 ch an kp sq ls se sz f) (hC : CT ad cA w' S') (hf : ∀ k, (k < 1 ∨ 11 < k) → k ≤ 28 → w' k = w k) : CJ ad cA w' S' n rl rr co le9 ch an kp sq ls se sz f := by
  obtain ⟨c0, ckp, cCT, cRS, c12, c13, c14, c15, c16, c17, c18, ck, ck1, sz0, f0, cs, cs1⟩ := h
  have hk : kp ≤ 27 ∧ 25 ≤ kp ∧ sq ≤ 27 ∧ 25 ≤ sq := by omega
  exact ⟨(hf 0 (by decide) (by decide)).trans c0, ckp, hC, rsc_fr cRS (fun k a b => hf k (by omega) (by omega)), (hf 12 (by decide) (by decide)).trans c12, (hf 13 (by decide) (by decide)).trans c13, (hf 14 (by decide) (by decide)).trans c14, (hf 15 (by decide) (by decide)).trans c15, (hf 16 (by decide) (by decide)).trans c16, (hf 17 (by decide) (by decide)).trans c17, (hf 18 (by decide) (by decide)).trans c18, (hf kp (by omega) (by omega)).trans ck, (hf (kp + 1) (by omega) (by omega)).trans ck1, sz0, f0, (hf sq (by omega) (by omega)).trans cs, (hf (sq + 1) (by omega) (by omega)).trans cs1⟩
theorem cj_fr (h : CJ ad cA w S n rl rr co le9 ch an kp sq ls se sz f) (hf : ∀ k, k ≤ 28 → w' k = w k) : CJ ad cA w' S n rl rr co le9 ch an kp sq ls se sz f :=
  cj_ct h (ct_fr h.2.2.1 (fun k a b => hf k (by omega))) (fun k _ b => hf k b)
theorem mr_fr (h : MR cA w rl rr co ch an f42) (hf : ∀ k, 37 ≤ k → k ≤ 42 → w' k = w k) : MR cA w' rl rr co ch an f42 :=
  ⟨(hf 37 (by decide) (by decide)).trans h.1, (hf 38 (by decide) (by decide)).trans h.2.1, (hf 39 (by decide) (by decide)).trans h.2.2.1, (hf 40 (by decide) (by decide)).trans h.2.2.2.1, (hf 41 (by decide) (by decide)).trans h.2.2.2.2.1, (hf 42 (by decide) (by decide)).trans h.2.2.2.2.2⟩
theorem pj_xt (h : PJ S n rl rr co le9 ch an sz f f42) (hx : xt S S') (hT : Tb S') : PJ S' n rl rr co le9 ch an sz f f42 := by
  obtain ⟨pT, pn, pR, pl, pr⟩ := h
  refine ⟨hT, pn, rg_xt hx pR, fun r hr => ?_, pr⟩
  obtain ⟨⟨a1, a2, -⟩, ⟨b1, b2⟩, -⟩ := pR r hr
  rw [pl r hr, xt_abv pT hx _ _ (by omega) (by omega)]
theorem pj_cut (h : PJ S n rl rr co le9 ch an sz f f42) (hx : xt S S') (hT : Tb S') : PJ (cut S' (sN S)) n rl rr co le9 ch an sz f f42 :=
  pj_xt h (xt_cut hx) (cut_Tb hT hx.1)
theorem js_out (h : JS ad cA w S n rl rr co le9 ch an kp sq ls se sz f f42 nr ns th fa so g) (g' : Nat → Int64) : JS ad cA (va_up w 55 (xLA (cA 2) 1 g')) S n rl rr co le9 ch an kp sq ls se sz f f42 nr ns th fa so g' := by
  obtain ⟨hC, hM, hS, hR, hP, h55⟩ := h
  exact ⟨cj_fr hC (fun k hk => va_ne (by omega)), mt_fr hM (fun k a b => va_ne (by omega)), msc_fr hS (fun k a b => va_ne (by omega)), mr_fr hR (fun k a b => va_ne (by omega)), hP, va_eq⟩
theorem js_th (h : JS ad cA w S n rl rr co le9 ch an kp sq ls se sz f f42 nr ns th fa so g) (k : Int) : JS ad cA (va_up w 29 (mdO ad (sN S : Int) (n : Int) sz ls nr ns k se fa so)) S n rl rr co le9 ch an kp sq ls se sz f f42 nr ns k fa so g := by
  obtain ⟨hC, hM, hS, hR, hP, h55⟩ := h
  exact ⟨cj_fr hC (fun k hk => va_ne (by omega)), mt_th hM, msc_fr hS (fun k a b => va_ne (by omega)), mr_fr hR (fun k a b => va_ne (by omega)), hP, (va_ne (by decide)).trans h55⟩
theorem je_of {k b : Int} (h : JS ad cA w S n rl rr co le9 ch an kp sq ls se sz f f42 nr ns k fa so g) (hk : 0 ≤ k ∧ k ≤ 3) (hb : k = 0 → g 0 = (zI b).toInt64) : JE ad cA k b w := by
  obtain ⟨hC, ⟨sg, fs, sn, wt, pl, dp, ho, h29, hMr⟩, hS, hR, hP, h55⟩ := id h
  exact ⟨⟨S, n, rl, rr, co, le9, ch, an, kp, sq, ls, se, sz, f, f42, nr, ns, k, fa, so, g, h⟩, ⟨_, _, _, _, _, _, _, _, _, h29⟩, hk, g, h55, hb⟩
theorem je_th {b : Int} (h : JS ad cA w S n rl rr co le9 ch an kp sq ls se sz f f42 nr ns th fa so g) (k : Int) (hk : 0 ≤ k ∧ k ≤ 3) (hb : k = 0 → g 0 = (zI b).toInt64) : JE ad cA k b (va_up w 29 (mdO ad (sN S : Int) (n : Int) sz ls nr ns k se fa so)) := je_of (js_th h k) hk hb
theorem ji_th (h : JS ad cA w S n rl rr co le9 ch an kp sq ls se sz f f42 nr ns th fa so g) (k : Int) : JI ad cA (va_up w 29 (mdO ad (sN S : Int) (n : Int) sz ls nr ns k se fa so)) := ⟨S, n, rl, rr, co, le9, ch, an, kp, sq, ls, se, sz, f, f42, nr, ns, k, fa, so, g, js_th h k⟩
theorem js_29 (h : JS ad cA w S n rl rr co le9 ch an kp sq ls se sz f f42 nr ns th fa so g) : w 29 = mdO ad (sN S : Int) (n : Int) sz ls nr ns th se fa so := by
  obtain ⟨sg, fs, sn, wt, pl, dp, ho, h29, hMr⟩ := h.2.1
  exact h29
theorem upd0 {x : Int64} : vp_updL g 0 x 0 = x := by simp [vp_updL]
end JV
section JW
variable {ad : Nat → Nat} {cA : Nat → ClassId} {w w' : Nat → va_E} {S S' : xS} {n : Nat} {rl rr co le9 ch an f f42 : Nat → Int} {kp sq : Nat} {ls sz : Int} {se : Bool} {nr ns th : Int} {fa so : Bool} {g : Nat → Int64}
theorem cj_ru (h : CJ ad cA w S n rl rr co le9 ch an kp sq ls se sz f) {n' : Nat} {rl' rr' co' le' ch' an' : Nat → Int} (hf : ∀ k, (k < 12 ∨ 18 < k) → k ≤ 28 → w' k = w k) (h12 : w' 12 = ruO ad (n' : Int)) (h13 : w' 13 = xIA (cA 0) 16 rl') (h14 : w' 14 = xIA (cA 0) 16 rr') (h15 : w' 15 = xIA (cA 0) 16 co') (h16 : w' 16 = xIA (cA 1) 16 le') (h17 : w' 17 = xIA (cA 1) 16 ch') (h18 : w' 18 = xIA (cA 0) 10 an') : CJ ad cA w' S n' rl' rr' co' le' ch' an' kp sq ls se sz f := by
  obtain ⟨c0, ckp, cCT, cRS, c12, c13, c14, c15, c16, c17, c18, ck, ck1, sz0, f0, cs, cs1⟩ := h
  have hk : kp ≤ 27 ∧ 25 ≤ kp ∧ sq ≤ 27 ∧ 25 ≤ sq := by omega
  exact ⟨(hf 0 (by decide) (by decide)).trans c0, ckp, ct_fr cCT (fun k a b => hf k (by omega) (by omega)), rsc_fr cRS (fun k a b => hf k (by omega) (by omega)), h12, h13, h14, h15, h16, h17, h18, (hf kp (by omega) (by omega)).trans ck, (hf (kp + 1) (by omega) (by omega)).trans ck1, sz0, f0, (hf sq (by omega) (by omega)).trans cs, (hf (sq + 1) (by omega) (by omega)).trans cs1⟩
theorem mt_29 {ru ro sp nr ns th ru' th' : Int} {se fa so : Bool} (h : MT ad cA w S ru ro sp nr ns th se fa so) (h29 : w' 29 = mdO ad (sN S : Int) ru' ro sp nr ns th' se fa so) (hf : ∀ k, 30 ≤ k → k ≤ 36 → w' k = w k) : MT ad cA w' S ru' ro sp nr ns th' se fa so := by
  obtain ⟨sg, fs, sn, wt, pl, dp, ho, hw29, hw30, hw31, hw32, hw33, hw34, hw35, hw36, hA⟩ := h
  exact ⟨sg, fs, sn, wt, pl, dp, ho, h29, (hf 30 (by decide) (by decide)).trans hw30, (hf 31 (by decide) (by decide)).trans hw31, (hf 32 (by decide) (by decide)).trans hw32, (hf 33 (by decide) (by decide)).trans hw33, (hf 34 (by decide) (by decide)).trans hw34, (hf 35 (by decide) (by decide)).trans hw35, (hf 36 (by decide) (by decide)).trans hw36, hA⟩
theorem msc_sa (h : MSC cA w) (hs : SA cA w') (hf : ∀ k, k ≠ 29 → k ≠ 46 → k ≠ 47 → k ≠ 50 → k ≠ 51 → w' k = w k) : MSC cA w' := by
  obtain ⟨h1, ⟨⟨a, ha⟩, ⟨b, hb⟩, -, -, ⟨e, he⟩, ⟨f, hf9⟩, ⟨g, hg⟩, ⟨i, hi⟩⟩, ⟨c, hc⟩, ⟨d, hd⟩⟩ := h
  have hk : ∀ k, 43 ≤ k → k ≠ 46 → k ≠ 47 → k ≠ 50 → k ≠ 51 → w' k = w k := fun k a => hf k (by omega)
  exact ⟨hs, ⟨⟨a, (hk 44 (by decide) (by decide) (by decide) (by decide) (by decide)).trans ha⟩, ⟨b, (hk 45 (by decide) (by decide) (by decide) (by decide) (by decide)).trans hb⟩, hs.1, hs.2.1, ⟨e, (hk 48 (by decide) (by decide) (by decide) (by decide) (by decide)).trans he⟩, ⟨f, (hk 49 (by decide) (by decide) (by decide) (by decide) (by decide)).trans hf9⟩, ⟨g, (hk 52 (by decide) (by decide) (by decide) (by decide) (by decide)).trans hg⟩, ⟨i, (hk 53 (by decide) (by decide) (by decide) (by decide) (by decide)).trans hi⟩⟩, ⟨c, (hk 54 (by decide) (by decide) (by decide) (by decide) (by decide)).trans hc⟩, ⟨d, (hk 43 (by decide) (by decide) (by decide) (by decide) (by decide)).trans hd⟩⟩
theorem msc_at (h : MSC cA w) (h44 : ∃ f, w' 44 = xIA (cA 0) 1001 f) (h47 : ∃ f, w' 47 = xIA (cA 0) 1100 f) (hf : ∀ k, k ≠ 29 → k ≠ 47 → k ≠ 44 → w' k = w k) : MSC cA w' := by
  obtain ⟨⟨⟨p, hp⟩, -, ⟨q, hq⟩, ⟨r, hr⟩⟩, ⟨-, ⟨b, hb⟩, -, -, ⟨e, he⟩, ⟨f, hf9⟩, ⟨g, hg⟩, ⟨i, hi⟩⟩, ⟨c, hc⟩, ⟨d, hd⟩⟩ := h
  have e46 : ∃ f, w' 46 = xIA (cA 0) 1001 f := ⟨p, (hf 46 (by decide) (by decide) (by decide)).trans hp⟩
  exact ⟨⟨e46, h47, ⟨q, (hf 50 (by decide) (by decide) (by decide)).trans hq⟩, ⟨r, (hf 51 (by decide) (by decide) (by decide)).trans hr⟩⟩, ⟨h44, ⟨b, (hf 45 (by decide) (by decide) (by decide)).trans hb⟩, e46, h47, ⟨e, (hf 48 (by decide) (by decide) (by decide)).trans he⟩, ⟨f, (hf 49 (by decide) (by decide) (by decide)).trans hf9⟩, ⟨g, (hf 52 (by decide) (by decide) (by decide)).trans hg⟩, ⟨i, (hf 53 (by decide) (by decide) (by decide)).trans hi⟩⟩, ⟨c, (hf 54 (by decide) (by decide) (by decide)).trans hc⟩, ⟨d, (hf 43 (by decide) (by decide) (by decide)).trans hd⟩⟩
theorem pj_an (h : PJ S n rl rr co le9 ch an sz f f42) {x y : Int} (hy : 0 ≤ y ∧ y < 3) : PJ S n rl rr co le9 ch (va_up an x.toNat y) sz f f42 := by
  obtain ⟨pT, pn, pR, pl, pco, pch, ple, pan, pr⟩ := h
  refine ⟨pT, pn, pR, pl, pco, pch, ple, fun j => ?_, pr⟩
  by_cases e : j = x.toNat
  · rw [e, va_eq]; omega
  · rw [va_ne e]; exact pan j
theorem pj_ch (h : PJ S n rl rr co le9 ch an sz f f42) {x : Int} {on : Bool} : PJ S n rl rr co le9 (va_up ch x.toNat (xb on)) an sz f f42 := by
  obtain ⟨pT, pn, pR, pl, pco, pch, ple, pan, pr⟩ := h
  refine ⟨pT, pn, pR, pl, pco, fun j => ?_, ple, pan, pr⟩
  by_cases e : j = x.toNat
  · rw [e, va_eq]; exact xb_01
  · rw [va_ne e]; exact pch j
theorem pj_add (h : PJ S n rl rr co le9 ch an sz f f42) (hn : n < 16) {x y u : Int} (hx : 0 ≤ x ∧ x < (sN S : Int)) (hy : 0 ≤ y ∧ y < (sN S : Int)) (hsg : sSg S x.toNat < 100) (hk : nmk (sHo S y.toNat) (sHo S x.toNat) = 0) (hu : -1 ≤ u ∧ u < 10) : PJ S (n + 1) (va_up rl n x) (va_up rr n y) (va_up co n u) (va_up le9 n (xb (abv S x.toNat y.toNat))) (va_up ch n 1) an sz f f42 := by
  obtain ⟨pT, pn, pR, pl, pco, pch, ple, pan, pr⟩ := h
  refine ⟨pT, by omega, fun r hr => ?_, fun r hr => ?_, fun j => ?_, fun j => ?_, fun j => ?_, pan, pr⟩
  · by_cases e : r = n
    · subst e
      simp only [va_eq]
      exact ⟨⟨hx.1, hx.2, hsg⟩, hy, nmk_cnt pT (by omega) (by omega) hk⟩
    · simp only [va_ne e]
      exact pR r (by omega)
  · by_cases e : r = n
    · subst e
      simp only [va_eq]
    · simp only [va_ne e]
      exact pl r (by omega)
  · by_cases e : j = n
    · subst e; rw [va_eq]; exact hu
    · rw [va_ne e]; exact pco j
  · by_cases e : j = n
    · subst e; rw [va_eq]; exact Or.inr rfl
    · rw [va_ne e]; exact pch j
  · by_cases e : j = n
    · subst e; rw [va_eq]; exact xb_01
    · rw [va_ne e]; exact ple j
theorem pj_run (h : PJ S n rl rr co le9 ch an sz f f42) {only : Bool} {m x : Nat} (hx : x < sN S) {z : Int} {acc : List (Nat × Nat × Nat × Nat)} (he : (z, S', acc) = runS n rl rr (usS co ch an le9 only) m S x []) (hxt : xt S S') (hT : Tb S') {f' g' : Nat → Int} (h1 : RWS f' acc) (h2 : RWS g' acc) : PJ S' n rl rr co le9 ch an ((min 200 acc.length : Nat) : Int) f' g' := by
  obtain ⟨pT, pn, pR, pl, pco, pch, ple, pan, psz, pf, pr⟩ := pj_xt h hxt hT
  exact ⟨pT, pn, pR, pl, pco, pch, ple, pan, ⟨by omega, by omega⟩, rws_eq h1 h2, rws_ru h1 pn (run_ru m S x [] acc z S' h.1 h.2.2.1 hx (fun e he => by cases he) he)⟩
end JW
