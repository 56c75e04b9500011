theorem cj_run {ad : Nat → Nat} {cA : Nat → ClassId} {w w1 : Nat → va_E} {S S' : xS} {n : Nat} {rl rr co le9 ch an f f' : Nat → Int} {kp sq : Nat} {ls ls' sz sz' : Int} {se se' : Bool} (h : CJ ad cA w S n rl rr co le9 ch an kp sq ls se sz f) (hC : CT ad cA w1 S') (hRS : RSC ad cA w1) (h0 : w1 0 = rsO ad sq kp ls' se') (hs : w1 sq = roO ad sq sz') (hs1 : w1 (sq + 1) = xIA (cA 0) 800 f') (hf : ∀ k, k ≠ 0 → (k < 1 ∨ 11 < k) → (k < 19 ∨ 24 < k) → k ≠ sq → k ≠ sq + 1 → w1 k = w k) : CJ ad cA w1 S' n rl rr co le9 ch an sq kp ls' se' sz' f' := by
  obtain ⟨c0, ckp, cCT, cRS, c12, c13, c14, c15, c16, c17, c18, ck, ck1, sz0, f0, cs, cs1⟩ := h
  have hk : kp ≤ 27 ∧ 25 ≤ kp ∧ sq ≤ 27 ∧ 25 ≤ sq := by omega
  have hg : ∀ k, 12 ≤ k → k ≤ 18 → w1 k = w k := fun k a b => hf k (by omega) (by omega) (by omega) (by omega) (by omega)
  exact ⟨h0, by omega, hC, hRS, (hg 12 (by decide) (by decide)).trans c12, (hg 13 (by decide) (by decide)).trans c13, (hg 14 (by decide) (by decide)).trans c14, (hg 15 (by decide) (by decide)).trans c15, (hg 16 (by decide) (by decide)).trans c16, (hg 17 (by decide) (by decide)).trans c17, (hg 18 (by decide) (by decide)).trans c18, hs, hs1, sz, f, (hf kp (by omega) (by omega) (by omega) (by omega) (by omega)).trans ck, (hf (kp + 1) (by omega) (by omega) (by omega) (by omega) (by omega)).trans ck1⟩
/-- a run whose rows are not taken -/
theorem cj_off {ad : Nat → Nat} {cA : Nat → ClassId} {w w1 : Nat → va_E} {S S' : xS} {n : Nat} {rl rr co le9 ch an f : Nat → Int} {kp sq : Nat} {ls sz : Int} {se : Bool} (h : CJ ad cA w S n rl rr co le9 ch an kp sq ls se sz f) (hC : CT ad cA w1 S') (hRS : RSC ad cA w1) (h0 : w1 0 = w 0) (hs : ∃ (sz : Int) (f : Nat → Int), w1 sq = roO ad sq sz ∧ w1 (sq + 1) = xIA (cA 0) 800 f) (hf : ∀ k, k ≠ 0 → (k < 1 ∨ 11 < k) → (k < 19 ∨ 24 < k) → k ≠ sq → k ≠ sq + 1 → w1 k = w k) : CJ ad cA w1 S' n rl rr co le9 ch an kp sq ls se sz f := by
  obtain ⟨c0, ckp, cCT, cRS, c12, c13, c14, c15, c16, c17, c18, ck, ck1, sz0, f0, cs, cs1⟩ := h
  have hk : kp ≤ 27 ∧ 25 ≤ kp ∧ sq ≤ 27 ∧ 25 ≤ sq := by omega
  have hg : ∀ k, 12 ≤ k → k ≤ 18 → w1 k = w k := fun k a b => hf k (by omega) (by omega) (by omega) (by omega) (by omega)
  exact ⟨h0.trans c0, ckp, hC, hRS, (hg 12 (by decide) (by decide)).trans c12, (hg 13 (by decide) (by decide)).trans c13, (hg 14 (by decide) (by decide)).trans c14, (hg 15 (by decide) (by decide)).trans c15, (hg 16 (by decide) (by decide)).trans c16, (hg 17 (by decide) (by decide)).trans c17, (hg 18 (by decide) (by decide)).trans c18, (hf kp (by omega) (by omega) (by omega) (by omega) (by omega)).trans ck, (hf (kp + 1) (by omega) (by omega) (by omega) (by omega) (by omega)).trans ck1, hs⟩
set_option maxHeartbeats 4000000 in
set_option maxRecDepth 100000 in
theorem j_rewrite {L : Launch} {D : va_G} {cA : Nat → ClassId} {base : Nat} {ad : Nat → Nat} {w : Nat → va_E} (hLt : L.stackTraces = false) (hJ : JI ad cA w) {x : Int} (hx : -2147483648 ≤ x ∧ x < 2147483648) {y : Int} (hy : -2147483648 ≤ y ∧ y < 2147483648) : XMH L D cA base y_La_rewrite c_La_rewrite 5 (some .int) [(0, 10, 13, 24), (0, 10, 17, 13), (0, 10, 21, 15)] (xrm 70 3 18) [.ref (ad 0), .int (zI x), .int (zI y), .ref (ad 55)] 56 ad w (xRet 56 ad (fun k w1 => (∃ fs, w1 29 = xOb 5 fs) ∧ XM L D cA base y_Md_rewrite c_Md_rewrite 4 (some .int) (xrm 6 0 0) [.ref (ad 29), .int (zI x), .int (zI y)] 56 ad w1 (xRet 56 ad (fun b w' => JE ad cA k b w')) xF)) := by
  obtain ⟨S, n, rl, rr, co, le9, ch, an, kp, sq, ls, se, sz, f, f42, nr, ns, th, fa, so, g, hS⟩ := hJ
  obtain ⟨hC, hM, hMS, hR, hP, h55⟩ := id hS
  obtain ⟨c0, ckp, cCT, cRS, c12, c13, c14, c15, c16, c17, c18, ck, ck1, sz0, f0, cs, cs1⟩ := id hC
  obtain ⟨pT, pn, pR, pl, pco, pch, ple, pan, psz, pf, pr⟩ := id hP
  obtain ⟨mk, fs9, sn9, wt, pl9, dp, ho, hc, nw, od, t1, t2, t3, t4, t5, t6, t7, t8, t9, t10, t11, tTC⟩ := id cCT
  have hN := pT.1
  have hkq : (kp = 25 ∨ kp = 27) ∧ (sq = 25 ∨ sq = 27) := by omega
  refine xm_monoH (w_La_rewrite (g := g) (m_RS_rewrite hLt c0 hkq.2 cs cs1 cCT pT cRS pn c12 c13 c14 c15 c16 c17 c18 pco pch ple pan pR hx hy) c0 (fun z w1 h => by obtain ⟨hr, hr2, S', acc, f', he, hz, hz2, hT', hxt, hC', hRS', h0', hs', hs1', hRW, hf⟩ := h; exact (hf 55 (by decide) (by decide) (by decide) (by omega) (by omega)).trans h55) (fun E w1 h => h.elim (fun q => Or.inl q.1) (fun q => Or.inr (q.elim (fun q => Or.inl q.1) (fun q => Or.inr q.1))))) (fun v n' ad' w' hp => ?_)
  obtain ⟨rfl, rfl, k, rfl, hk⟩ := hp
  refine ⟨rfl, rfl, k, rfl, ?_⟩
  rcases hk with ⟨rfl, z, w1, ⟨hr, hr2, S', acc, f', he, hz, hz2, hT', hxt, hC', hRS', h0', hs', hs1', hRW, hf⟩, rfl⟩ | ⟨rfl, hd⟩ | ⟨rfl, hd⟩ | ⟨rfl, hd⟩
  · have hM2 := mt_fr (w' := va_up w1 55 (xLA (cA 2) 1 (vp_updL g 0 (zI z).toInt64))) hM (fun k a b => (va_ne (by omega)).trans (hf k (by omega) (by omega) (by omega) (by omega) (by omega)))
    have hS2 := msc_fr (w' := va_up w1 55 (xLA (cA 2) 1 (vp_updL g 0 (zI z).toInt64))) hMS (fun k a b => (va_ne (by omega)).trans (hf k (by omega) (by omega) (by omega) (by omega) (by omega)))
    have hR2 := mr_fr (w' := va_up w1 55 (xLA (cA 2) 1 (vp_updL g 0 (zI z).toInt64))) hR (fun k a b => (va_ne (by omega)).trans (hf k (by omega) (by omega) (by omega) (by omega) (by omega)))
    refine ⟨⟨_, hM2.choose_spec.choose_spec.choose_spec.choose_spec.choose_spec.choose_spec.choose_spec.1⟩, xm_mono (m_Md_rewrite (le9 := le9) hM2 pT hS2 pn hR2.1 hR2.2.1 pR hR2.2.2.1 hR2.2.2.2.1 hR2.2.2.2.2.1 pco pch pan pl hR2.2.2.2.2.2 hx hy) (fun v n' ad' w' hp => ?_) (fun _ _ _ _ h => h)⟩
    obtain ⟨rfl, rfl, b, rfl, hb⟩ := hp
    refine ⟨rfl, rfl, b, rfl, ?_⟩
    rcases hb with ⟨h1, rfl, rfl⟩ | ⟨h1, h2, rfl, rfl⟩ | ⟨h1, h2, z2, S2, acc2, he2, hT2, hxt2, hz3, hz4, hMS', hf3, hd3⟩
    · exact absurd hr h1
    · exact absurd hr2 h2
    · have e9 := he2.trans he.symm
      obtain ⟨rfl, e8⟩ := Prod.mk.inj e9
      obtain ⟨rfl, rfl⟩ := Prod.mk.inj e8
      rcases hd3 with ⟨-, hv, hMT, f9, h42, hRW9⟩ | ⟨hneg, -⟩
      · exact je_of (S := S2) ⟨cj_fr (cj_run hC hC' hRS' h0' hs' hs1' hf) (fun k hk => (hf3 k (by omega) (by omega)).trans (va_ne (by omega))), hMT, hMS', ⟨(hf3 37 (by decide) (by decide)).trans hR2.1, (hf3 38 (by decide) (by decide)).trans hR2.2.1, (hf3 39 (by decide) (by decide)).trans hR2.2.2.1, (hf3 40 (by decide) (by decide)).trans hR2.2.2.2.1, (hf3 41 (by decide) (by decide)).trans hR2.2.2.2.2.1, h42⟩, pj_run hP (by omega) he hxt hT' hRW hRW9, (hf3 55 (by decide) (by decide)).trans va_eq⟩ (by decide) (fun _ => by rw [upd0, hv])
      · exact absurd hz (by omega)
  · obtain ⟨hr, rfl⟩ := hd.elim (fun q => q.2) (fun q => q.elim (fun q => absurd q.1 (by decide +kernel)) (fun q => absurd q.1 (by decide +kernel)))
    have J2 := hS
    refine ⟨⟨_, js_29 J2⟩, xm_mono (m_Md_rewrite (le9 := le9) hM pT hMS pn hR.1 hR.2.1 pR hR.2.2.1 hR.2.2.2.1 hR.2.2.2.2.1 pco pch pan pl hR.2.2.2.2.2 hx hy) (fun v n' ad' w' hp => ?_) (fun _ _ _ _ h => h)⟩
    obtain ⟨rfl, rfl, b, rfl, hb⟩ := hp
    refine ⟨rfl, rfl, b, rfl, ?_⟩
    rcases hb with ⟨h1, rfl, rfl⟩ | ⟨h1, h2, rfl, rfl⟩ | ⟨h1, h2, z2, S2, acc2, he2, hT2, hxt2, hz3, hz4, hMS', hf3, hd3⟩
    · exact je_th J2 1 (by decide) (fun h => absurd h (by decide))
    · exact absurd h1 hr
    · exact absurd h1 hr
  · obtain ⟨hr, hr2, rfl⟩ := hd.elim (fun q => absurd q.1 (by decide +kernel)) (fun q => q.elim (fun q => q.2) (fun q => absurd q.1 (by decide +kernel)))
    have J2 := hS
    refine ⟨⟨_, js_29 J2⟩, xm_mono (m_Md_rewrite (le9 := le9) hM pT hMS pn hR.1 hR.2.1 pR hR.2.2.1 hR.2.2.2.1 hR.2.2.2.2.1 pco pch pan pl hR.2.2.2.2.2 hx hy) (fun v n' ad' w' hp => ?_) (fun _ _ _ _ h => h)⟩
    obtain ⟨rfl, rfl, b, rfl, hb⟩ := hp
    refine ⟨rfl, rfl, b, rfl, ?_⟩
    rcases hb with ⟨h1, rfl, rfl⟩ | ⟨h1, h2, rfl, rfl⟩ | ⟨h1, h2, z2, S2, acc2, he2, hT2, hxt2, hz3, hz4, hMS', hf3, hd3⟩
    · exact absurd hr h1
    · exact je_th J2 2 (by decide) (fun h => absurd h (by decide))
    · exact absurd h2 hr2
  · obtain ⟨hr, hr2, S', acc, he, hxt, hT', hC', hRS', ⟨sz9, f99, hs9, hs8⟩, h0', hf⟩ := hd.elim (fun q => absurd q.1 (by decide +kernel)) (fun q => q.elim (fun q => absurd q.1 (by decide +kernel)) (fun q => q.2))
    clear hd
    have hM2 := mt_fr hM (fun k a b => hf k (by omega) (by omega) (by omega) (by omega) (by omega))
    have hS2 := msc_fr hMS (fun k a b => hf k (by omega) (by omega) (by omega) (by omega) (by omega))
    have hR2 := mr_fr hR (fun k a b => hf k (by omega) (by omega) (by omega) (by omega) (by omega))
    refine ⟨⟨_, hM2.choose_spec.choose_spec.choose_spec.choose_spec.choose_spec.choose_spec.choose_spec.1⟩, xm_mono (m_Md_rewrite (le9 := le9) hM2 pT hS2 pn hR2.1 hR2.2.1 pR hR2.2.2.1 hR2.2.2.2.1 hR2.2.2.2.2.1 pco pch pan pl hR2.2.2.2.2.2 hx hy) (fun v n' ad' w' hp => ?_) (fun _ _ _ _ h => h)⟩
    obtain ⟨rfl, rfl, b, rfl, hb⟩ := hp
    refine ⟨rfl, rfl, b, rfl, ?_⟩
    rcases hb with ⟨h1, rfl, rfl⟩ | ⟨h1, h2, rfl, rfl⟩ | ⟨h1, h2, z2, S2, acc2, he2, hT2, hxt2, hz3, hz4, hMS', hf3, hd3⟩
    · exact absurd hr h1
    · exact absurd hr2 h2
    · have e9 := he2.trans he.symm
      obtain ⟨rfl, e8⟩ := Prod.mk.inj e9
      obtain ⟨rfl, rfl⟩ := Prod.mk.inj e8
      rcases hd3 with ⟨h0, -⟩ | ⟨-, hv, h42, nr9, ns9, so9, hMT⟩
      · exact absurd h0 (by decide)
      · exact je_of (S := cut S2 (sN S)) ⟨cj_fr (cj_off hC hC' hRS' h0' ⟨sz9, f99, hs9, hs8⟩ hf) (fun k hk => hf3 k (by omega) (by omega)), hMT, hMS', ⟨(hf3 37 (by decide) (by decide)).trans hR2.1, (hf3 38 (by decide) (by decide)).trans hR2.2.1, (hf3 39 (by decide) (by decide)).trans hR2.2.2.1, (hf3 40 (by decide) (by decide)).trans hR2.2.2.2.1, (hf3 41 (by decide) (by decide)).trans hR2.2.2.2.2.1, h42.trans hR2.2.2.2.2.2⟩, pj_cut hP hxt hT', (hf3 55 (by decide) (by decide)).trans ((hf 55 (by decide) (by decide) (by decide) (by omega) (by omega)).trans h55)⟩ (by decide) (fun h => absurd h (by decide))
set_option maxHeartbeats 4000000 in
set_option maxRecDepth 100000 in
theorem j_normal {L : Launch} {D : va_G} {cA : Nat → ClassId} {base : Nat} {ad : Nat → Nat} {w : Nat → va_E} (hLt : L.stackTraces = false) (hJ : JI ad cA w) {x : Int} (hx : -2147483648 ≤ x ∧ x < 2147483648) : XMH L D cA base y_La_normal c_La_normal 4 (some .int) [(0, 9, 12, 24), (0, 9, 15, 13), (0, 9, 18, 15)] (xrm 70 3 18) [.ref (ad 0), .int (zI x), .ref (ad 55)] 56 ad w (xRet 56 ad (fun k w1 => (∃ fs, w1 29 = xOb 5 fs) ∧ XM L D cA base y_Md_normal c_Md_normal 3 (some .int) (xrm 6 0 0) [.ref (ad 29), .int (zI x)] 56 ad w1 (xRet 56 ad (fun b w' => JE ad cA k b w')) xF)) := by
  obtain ⟨S, n, rl, rr, co, le9, ch, an, kp, sq, ls, se, sz, f, f42, nr, ns, th, fa, so, g, hS⟩ := hJ
  obtain ⟨hC, hM, hMS, hR, hP, h55⟩ := id hS
  obtain ⟨c0, ckp, cCT, cRS, c12, c13, c14, c15, c16, c17, c18, ck, ck1, sz0, f0, cs, cs1⟩ := id hC
  obtain ⟨pT, pn, pR, pl, pco, pch, ple, pan, psz, pf, pr⟩ := id hP
  obtain ⟨mk, fs9, sn9, wt, pl9, dp, ho, hc, nw, od, t1, t2, t3, t4, t5, t6, t7, t8, t9, t10, t11, tTC⟩ := id cCT
  have hN := pT.1
  have hkq : (kp = 25 ∨ kp = 27) ∧ (sq = 25 ∨ sq = 27) := by omega
  refine xm_monoH (w_La_normal (g := g) (m_RS_normal hLt c0 hkq.2 cs cs1 cCT pT cRS pn c12 c13 c14 c15 c16 c17 c18 pco pch ple pan pR hx) c0 (fun z w1 h => by obtain ⟨hr, hr2, S', acc, f', he, hz, hz2, hT', hxt, hC', hRS', h0', hs', hs1', hRW, hf⟩ := h; exact (hf 55 (by decide) (by decide) (by decide) (by omega) (by omega)).trans h55) (fun E w1 h => h.elim (fun q => Or.inl q.1) (fun q => Or.inr (q.elim (fun q => Or.inl q.1) (fun q => Or.inr q.1))))) (fun v n' ad' w' hp => ?_)
  obtain ⟨rfl, rfl, k, rfl, hk⟩ := hp
  refine ⟨rfl, rfl, k, rfl, ?_⟩
  rcases hk with ⟨rfl, z, w1, ⟨hr, hr2, S', acc, f', he, hz, hz2, hT', hxt, hC', hRS', h0', hs', hs1', hRW, hf⟩, rfl⟩ | ⟨rfl, hd⟩ | ⟨rfl, hd⟩ | ⟨rfl, hd⟩
  · have hM2 := mt_fr (w' := va_up w1 55 (xLA (cA 2) 1 (vp_updL g 0 (zI z).toInt64))) hM (fun k a b => (va_ne (by omega)).trans (hf k (by omega) (by omega) (by omega) (by omega) (by omega)))
    have hS2 := msc_fr (w' := va_up w1 55 (xLA (cA 2) 1 (vp_updL g 0 (zI z).toInt64))) hMS (fun k a b => (va_ne (by omega)).trans (hf k (by omega) (by omega) (by omega) (by omega) (by omega)))
    have hR2 := mr_fr (w' := va_up w1 55 (xLA (cA 2) 1 (vp_updL g 0 (zI z).toInt64))) hR (fun k a b => (va_ne (by omega)).trans (hf k (by omega) (by omega) (by omega) (by omega) (by omega)))
    refine ⟨⟨_, hM2.choose_spec.choose_spec.choose_spec.choose_spec.choose_spec.choose_spec.choose_spec.1⟩, xm_mono (m_Md_normal (le9 := le9) hM2 pT hS2 pn hR2.1 hR2.2.1 pR hR2.2.2.1 hR2.2.2.2.1 hR2.2.2.2.2.1 pco pch pan pl hR2.2.2.2.2.2 hx) (fun v n' ad' w' hp => ?_) (fun _ _ _ _ h => h)⟩
    obtain ⟨rfl, rfl, b, rfl, hb⟩ := hp
    refine ⟨rfl, rfl, b, rfl, ?_⟩
    rcases hb with ⟨h1, rfl, rfl⟩ | ⟨h1, h2, rfl, rfl⟩ | ⟨h1, h2, z2, S2, acc2, he2, hT2, hxt2, hz3, hz4, hMS', hf3, hd3⟩
    · exact absurd hr h1
    · exact absurd hr2 h2
    · have e9 := he2.trans he.symm
      obtain ⟨rfl, e8⟩ := Prod.mk.inj e9
      obtain ⟨rfl, rfl⟩ := Prod.mk.inj e8
      rcases hd3 with ⟨-, hv, ⟨so9, hMT⟩, f9, h42, hRW9⟩ | ⟨hneg, -⟩
      · exact je_of (S := S2) ⟨cj_fr (cj_run hC hC' hRS' h0' hs' hs1' hf) (fun k hk => (hf3 k (by omega) (by omega)).trans (va_ne (by omega))), hMT, hMS', ⟨(hf3 37 (by decide) (by decide)).trans hR2.1, (hf3 38 (by decide) (by decide)).trans hR2.2.1, (hf3 39 (by decide) (by decide)).trans hR2.2.2.1, (hf3 40 (by decide) (by decide)).trans hR2.2.2.2.1, (hf3 41 (by decide) (by decide)).trans hR2.2.2.2.2.1, h42⟩, pj_run hP (by omega) he hxt hT' hRW hRW9, (hf3 55 (by decide) (by decide)).trans va_eq⟩ (by decide) (fun _ => by rw [upd0, hv])
      · exact absurd hz (by omega)
  · obtain ⟨hr, rfl⟩ := hd.elim (fun q => q.2) (fun q => q.elim (fun q => absurd q.1 (by decide +kernel)) (fun q => absurd q.1 (by decide +kernel)))
    have J2 := hS
    refine ⟨⟨_, js_29 J2⟩, xm_mono (m_Md_normal (le9 := le9) hM pT hMS pn hR.1 hR.2.1 pR hR.2.2.1 hR.2.2.2.1 hR.2.2.2.2.1 pco pch pan pl hR.2.2.2.2.2 hx) (fun v n' ad' w' hp => ?_) (fun _ _ _ _ h => h)⟩
    obtain ⟨rfl, rfl, b, rfl, hb⟩ := hp
    refine ⟨rfl, rfl, b, rfl, ?_⟩
    rcases hb with ⟨h1, rfl, rfl⟩ | ⟨h1, h2, rfl, rfl⟩ | ⟨h1, h2, z2, S2, acc2, he2, hT2, hxt2, hz3, hz4, hMS', hf3, hd3⟩
    · exact je_th J2 1 (by decide) (fun h => absurd h (by decide))
    · exact absurd h1 hr
    · exact absurd h1 hr
  · obtain ⟨hr, hr2, rfl⟩ := hd.elim (fun q => absurd q.1 (by decide +kernel)) (fun q => q.elim (fun q => q.2) (fun q => absurd q.1 (by decide +kernel)))
    have J2 := hS
    refine ⟨⟨_, js_29 J2⟩, xm_mono (m_Md_normal (le9 := le9) hM pT hMS pn hR.1 hR.2.1 pR hR.2.2.1 hR.2.2.2.1 hR.2.2.2.2.1 pco pch pan pl hR.2.2.2.2.2 hx) (fun v n' ad' w' hp => ?_) (fun _ _ _ _ h => h)⟩
    obtain ⟨rfl, rfl, b, rfl, hb⟩ := hp
    refine ⟨rfl, rfl, b, rfl, ?_⟩
    rcases hb with ⟨h1, rfl, rfl⟩ | ⟨h1, h2, rfl, rfl⟩ | ⟨h1, h2, z2, S2, acc2, he2, hT2, hxt2, hz3, hz4, hMS', hf3, hd3⟩
    · exact absurd hr h1
    · exact je_th J2 2 (by decide) (fun h => absurd h (by decide))
    · exact absurd h2 hr2
  · obtain ⟨hr, hr2, S', acc, he, hxt, hT', hC', hRS', ⟨sz9, f99, hs9, hs8⟩, h0', hf⟩ := hd.elim (fun q => absurd q.1 (by decide +kernel)) (fun q => q.elim (fun q => absurd q.1 (by decide +kernel)) (fun q => q.2))
    clear hd
    have hM2 := mt_fr hM (fun k a b => hf k (by omega) (by omega) (by omega) (by omega) (by omega))
    have hS2 := msc_fr hMS (fun k a b => hf k (by omega) (by omega) (by omega) (by omega) (by omega))
    have hR2 := mr_fr hR (fun k a b => hf k (by omega) (by omega) (by omega) (by omega) (by omega))
    refine ⟨⟨_, hM2.choose_spec.choose_spec.choose_spec.choose_spec.choose_spec.choose_spec.choose_spec.1⟩, xm_mono (m_Md_normal (le9 := le9) hM2 pT hS2 pn hR2.1 hR2.2.1 pR hR2.2.2.1 hR2.2.2.2.1 hR2.2.2.2.2.1 pco pch pan pl hR2.2.2.2.2.2 hx) (fun v n' ad' w' hp => ?_) (fun _ _ _ _ h => h)⟩
    obtain ⟨rfl, rfl, b, rfl, hb⟩ := hp
    refine ⟨rfl, rfl, b, rfl, ?_⟩
    rcases hb with ⟨h1, rfl, rfl⟩ | ⟨h1, h2, rfl, rfl⟩ | ⟨h1, h2, z2, S2, acc2, he2, hT2, hxt2, hz3, hz4, hMS', hf3, hd3⟩
    · exact absurd hr h1
    · exact absurd hr2 h2
    · have e9 := he2.trans he.symm
      obtain ⟨rfl, e8⟩ := Prod.mk.inj e9
      obtain ⟨rfl, rfl⟩ := Prod.mk.inj e8
      rcases hd3 with ⟨h0, -⟩ | ⟨-, hv, h42, nr9, ns9, so9, hMT⟩
      · exact absurd h0 (by decide)
      · exact je_of (S := cut S2 (sN S)) ⟨cj_fr (cj_off hC hC' hRS' h0' ⟨sz9, f99, hs9, hs8⟩ hf) (fun k hk => hf3 k (by omega) (by omega)), hMT, hMS', ⟨(hf3 37 (by decide) (by decide)).trans hR2.1, (hf3 38 (by decide) (by decide)).trans hR2.2.1, (hf3 39 (by decide) (by decide)).trans hR2.2.2.1, (hf3 40 (by decide) (by decide)).trans hR2.2.2.2.1, (hf3 41 (by decide) (by decide)).trans hR2.2.2.2.2.1, h42.trans hR2.2.2.2.2.2⟩, pj_cut hP hxt hT', (hf3 55 (by decide) (by decide)).trans ((hf 55 (by decide) (by decide) (by decide) (by omega) (by omega)).trans h55)⟩ (by decide) (fun h => absurd h (by decide))
set_option maxHeartbeats 4000000 in
set_option maxRecDepth 100000 in
theorem j_joins {L : Launch} {D : va_G} {cA : Nat → ClassId} {base : Nat} {ad : Nat → Nat} {w : Nat → va_E} (hLt : L.stackTraces = false) (hJ : JI ad cA w) {x : Int} (hx : -2147483648 ≤ x ∧ x < 2147483648) {y : Int} (hy : -2147483648 ≤ y ∧ y < 2147483648) : XMH L D cA base y_La_joins c_La_joins 5 (some .int) [(0, 17, 20, 24), (0, 17, 24, 13), (0, 17, 28, 15)] (xrm 70 6 36) [.ref (ad 0), .int (zI x), .int (zI y), .ref (ad 55)] 56 ad w (xRet 56 ad (fun k w1 => (∃ fs, w1 29 = xOb 5 fs) ∧ XM L D cA base y_Md_joins c_Md_joins 6 (some .boolean) (xrm 6 0 0) [.ref (ad 29), .int (zI x), .int (zI y)] 56 ad w1 (xRet 56 ad (fun b w' => (b = 0 ∨ b = 1) ∧ JE ad cA k b w')) xF)) := by
  obtain ⟨S, n, rl, rr, co, le9, ch, an, kp, sq, ls, se, sz, f, f42, nr, ns, th, fa, so, g, hS⟩ := hJ
  obtain ⟨hC, hM, hMS, hR, hP, h55⟩ := id hS
  obtain ⟨c0, ckp, cCT, cRS, c12, c13, c14, c15, c16, c17, c18, ck, ck1, sz0, f0, cs, cs1⟩ := id hC
  obtain ⟨pT, pn, pR, pl, pco, pch, ple, pan, psz, pf, pr⟩ := id hP
  obtain ⟨mk, fs9, sn9, wt, pl9, dp, ho, hc, nw, od, t1, t2, t3, t4, t5, t6, t7, t8, t9, t10, t11, tTC⟩ := id cCT
  have hN := pT.1
  have hkq : (kp = 25 ∨ kp = 27) ∧ (sq = 25 ∨ sq = 27) := by omega
  refine xm_monoH (w_La_joins (g := g) (m_RS_joins hLt c0 hkq.2 cs cs1 cCT pT cRS pn c12 c13 c14 c15 c16 c17 c18 pco pch ple pan pR hx hy) c0 (fun z w1 h => by obtain ⟨hr, hr2, S1, S2, z1, z2, acc1, acc2, he1, hz1, he2, hz2, hz, hT', hxt, hC', hRS', ⟨sz9, f99, hs9, hs8⟩, h0', hf⟩ := h; exact (hf 55 (by decide) (by decide) (by decide) (by omega) (by omega)).trans h55) (fun z w1 h => by obtain ⟨hr, hr2, S1, S2, z1, z2, acc1, acc2, he1, hz1, he2, hz2, hz, hT', hxt, hC', hRS', ⟨sz9, f99, hs9, hs8⟩, h0', hf⟩ := h; rw [hz]; exact xb_01) (fun E w1 h => h.elim (fun q => Or.inl q.1) (fun q => Or.inr (q.elim (fun q => Or.inl q.1) (fun q => Or.inr q.1))))) (fun v n' ad' w' hp => ?_)
  obtain ⟨rfl, rfl, k, rfl, hk⟩ := hp
  refine ⟨rfl, rfl, k, rfl, ?_⟩
  rcases hk with ⟨rfl, z, w1, ⟨hr, hr2, S1, S2, z1, z2, acc1, acc2, he1, hz1, he2, hz2, hz, hT', hxt, hC', hRS', ⟨sz9, f99, hs9, hs8⟩, h0', hf⟩, rfl⟩ | ⟨rfl, hd⟩ | ⟨rfl, hd⟩ | ⟨rfl, hd⟩
  · have hM2 := mt_fr (w' := va_up w1 55 (xLA (cA 2) 1 (vp_updL g 0 (zI z).toInt64))) hM (fun k a b => (va_ne (by omega)).trans (hf k (by omega) (by omega) (by omega) (by omega) (by omega)))
    have hS2 := msc_fr (w' := va_up w1 55 (xLA (cA 2) 1 (vp_updL g 0 (zI z).toInt64))) hMS (fun k a b => (va_ne (by omega)).trans (hf k (by omega) (by omega) (by omega) (by omega) (by omega)))
    have hR2 := mr_fr (w' := va_up w1 55 (xLA (cA 2) 1 (vp_updL g 0 (zI z).toInt64))) hR (fun k a b => (va_ne (by omega)).trans (hf k (by omega) (by omega) (by omega) (by omega) (by omega)))
    refine ⟨⟨_, hM2.choose_spec.choose_spec.choose_spec.choose_spec.choose_spec.choose_spec.choose_spec.1⟩, xm_mono (m_Md_joins (le9 := le9) hM2 pT hS2 pn hR2.1 hR2.2.1 pR hR2.2.2.1 hR2.2.2.2.1 hR2.2.2.2.2.1 pco pch pan pl hR2.2.2.2.2.2 hx hy) (fun v n' ad' w' hp => ?_) (fun _ _ _ _ h => h)⟩
    obtain ⟨rfl, rfl, b, rfl, hb⟩ := hp
    refine ⟨rfl, rfl, b, rfl, ?_⟩
    rcases hb with ⟨h1, rfl, rfl⟩ | ⟨h1, h2, rfl, rfl⟩ | ⟨h1, h2, y1, U1, bcc1, ge1, gx1, gT1, hMS', hf3, h42, hd3⟩
    · exact absurd hr h1
    · exact absurd hr2 h2
    · obtain ⟨rfl, e8⟩ := Prod.mk.inj (ge1.trans he1.symm)
      obtain ⟨rfl, rfl⟩ := Prod.mk.inj e8
      rcases hd3 with ⟨hneg, -⟩ | ⟨-, y2, U2, bcc2, ge2, gx2, gT2, hd4⟩
      · exact absurd hz1 (by omega)
      · obtain ⟨rfl, e7⟩ := Prod.mk.inj (ge2.trans he2.symm)
        obtain ⟨rfl, rfl⟩ := Prod.mk.inj e7
        rcases hd4 with ⟨hneg, -⟩ | ⟨-, -, hv, nr9, ns9, so9, hMT⟩
        · exact absurd hz2 (by omega)
        · exact ⟨by rw [hv]; exact xb_01, je_of (S := U2) ⟨cj_fr (cj_off hC hC' hRS' h0' ⟨sz9, f99, hs9, hs8⟩ hf) (fun k hk => (hf3 k (by omega) (by omega)).trans (va_ne (by omega))), hMT, hMS', ⟨(hf3 37 (by decide) (by decide)).trans hR2.1, (hf3 38 (by decide) (by decide)).trans hR2.2.1, (hf3 39 (by decide) (by decide)).trans hR2.2.2.1, (hf3 40 (by decide) (by decide)).trans hR2.2.2.2.1, (hf3 41 (by decide) (by decide)).trans hR2.2.2.2.2.1, h42.trans hR2.2.2.2.2.2⟩, pj_xt hP hxt hT', (hf3 55 (by decide) (by decide)).trans va_eq⟩ (by decide) (fun _ => by rw [upd0, hv, hz])⟩
  · obtain ⟨hr, rfl⟩ := hd.elim (fun q => q.2) (fun q => q.elim (fun q => absurd q.1 (by decide +kernel)) (fun q => absurd q.1 (by decide +kernel)))
    have J2 := hS
    refine ⟨⟨_, js_29 J2⟩, xm_mono (m_Md_joins (le9 := le9) hM pT hMS pn hR.1 hR.2.1 pR hR.2.2.1 hR.2.2.2.1 hR.2.2.2.2.1 pco pch pan pl hR.2.2.2.2.2 hx hy) (fun v n' ad' w' hp => ?_) (fun _ _ _ _ h => h)⟩
    obtain ⟨rfl, rfl, b, rfl, hb⟩ := hp
    refine ⟨rfl, rfl, b, rfl, ?_⟩
    rcases hb with ⟨h1, rfl, rfl⟩ | ⟨h1, h2, rfl, rfl⟩ | ⟨h1, h2, y1, U1, bcc1, ge1, gx1, gT1, hMS', hf3, h42, hd3⟩
    · exact ⟨Or.inl rfl, je_th J2 1 (by decide) (fun h => absurd h (by decide))⟩
    · exact absurd h1 hr
    · exact absurd h1 hr
  · obtain ⟨hr, hr2, rfl⟩ := hd.elim (fun q => absurd q.1 (by decide +kernel)) (fun q => q.elim (fun q => q.2) (fun q => absurd q.1 (by decide +kernel)))
    have J2 := hS
    refine ⟨⟨_, js_29 J2⟩, xm_mono (m_Md_joins (le9 := le9) hM pT hMS pn hR.1 hR.2.1 pR hR.2.2.1 hR.2.2.2.1 hR.2.2.2.2.1 pco pch pan pl hR.2.2.2.2.2 hx hy) (fun v n' ad' w' hp => ?_) (fun _ _ _ _ h => h)⟩
    obtain ⟨rfl, rfl, b, rfl, hb⟩ := hp
    refine ⟨rfl, rfl, b, rfl, ?_⟩
    rcases hb with ⟨h1, rfl, rfl⟩ | ⟨h1, h2, rfl, rfl⟩ | ⟨h1, h2, y1, U1, bcc1, ge1, gx1, gT1, hMS', hf3, h42, hd3⟩
    · exact absurd hr h1
    · exact ⟨Or.inl rfl, je_th J2 2 (by decide) (fun h => absurd h (by decide))⟩
    · exact absurd h2 hr2
  · obtain ⟨hr, hr2, S1, S2, z1, acc1, acc2, he1, hd2, hxt, hT', hC', hRS', ⟨sz9, f99, hs9, hs8⟩, h0', hf⟩ := hd.elim (fun q => absurd q.1 (by decide +kernel)) (fun q => q.elim (fun q => absurd q.1 (by decide +kernel)) (fun q => q.2))
    clear hd
    have hM2 := mt_fr hM (fun k a b => hf k (by omega) (by omega) (by omega) (by omega) (by omega))
    have hS2 := msc_fr hMS (fun k a b => hf k (by omega) (by omega) (by omega) (by omega) (by omega))
    have hR2 := mr_fr hR (fun k a b => hf k (by omega) (by omega) (by omega) (by omega) (by omega))
    refine ⟨⟨_, hM2.choose_spec.choose_spec.choose_spec.choose_spec.choose_spec.choose_spec.choose_spec.1⟩, xm_mono (m_Md_joins (le9 := le9) hM2 pT hS2 pn hR2.1 hR2.2.1 pR hR2.2.2.1 hR2.2.2.2.1 hR2.2.2.2.2.1 pco pch pan pl hR2.2.2.2.2.2 hx hy) (fun v n' ad' w' hp => ?_) (fun _ _ _ _ h => h)⟩
    obtain ⟨rfl, rfl, b, rfl, hb⟩ := hp
    refine ⟨rfl, rfl, b, rfl, ?_⟩
    rcases hb with ⟨h1, rfl, rfl⟩ | ⟨h1, h2, rfl, rfl⟩ | ⟨h1, h2, y1, U1, bcc1, ge1, gx1, gT1, hMS', hf3, h42, hd3⟩
    · exact absurd hr h1
    · exact absurd hr2 h2
    · obtain ⟨rfl, e8⟩ := Prod.mk.inj (ge1.trans he1.symm)
      obtain ⟨rfl, rfl⟩ := Prod.mk.inj e8
      rcases hd2 with ⟨hn1, rfl⟩ | ⟨hn1, he2⟩
      · rcases hd3 with ⟨-, hv, nr9, ns9, so9, hMT⟩ | ⟨hpos, -⟩
        · exact ⟨Or.inl hv, je_of (S := cut _ (sN S)) ⟨cj_fr (cj_off hC hC' hRS' h0' ⟨sz9, f99, hs9, hs8⟩ hf) (fun k hk => hf3 k (by omega) (by omega)), hMT, hMS', ⟨(hf3 37 (by decide) (by decide)).trans hR2.1, (hf3 38 (by decide) (by decide)).trans hR2.2.1, (hf3 39 (by decide) (by decide)).trans hR2.2.2.1, (hf3 40 (by decide) (by decide)).trans hR2.2.2.2.1, (hf3 41 (by decide) (by decide)).trans hR2.2.2.2.2.1, h42.trans hR2.2.2.2.2.2⟩, pj_cut hP hxt hT', (hf3 55 (by decide) (by decide)).trans ((hf 55 (by decide) (by decide) (by decide) (by omega) (by omega)).trans h55)⟩ (by decide) (fun h => absurd h (by decide))⟩
        · exact absurd hpos (by omega)
      · rcases hd3 with ⟨hneg, -⟩ | ⟨-, y2, U2, bcc2, ge2, gx2, gT2, hd4⟩
        · exact absurd hn1 (by omega)
        · obtain ⟨rfl, e7⟩ := Prod.mk.inj (ge2.trans he2.symm)
          obtain ⟨rfl, rfl⟩ := Prod.mk.inj e7
          rcases hd4 with ⟨-, hv, nr9, ns9, so9, hMT⟩ | ⟨hpos, -⟩
          · exact ⟨Or.inl hv, je_of (S := cut U2 (sN S)) ⟨cj_fr (cj_off hC hC' hRS' h0' ⟨sz9, f99, hs9, hs8⟩ hf) (fun k hk => hf3 k (by omega) (by omega)), hMT, hMS', ⟨(hf3 37 (by decide) (by decide)).trans hR2.1, (hf3 38 (by decide) (by decide)).trans hR2.2.1, (hf3 39 (by decide) (by decide)).trans hR2.2.2.1, (hf3 40 (by decide) (by decide)).trans hR2.2.2.2.1, (hf3 41 (by decide) (by decide)).trans hR2.2.2.2.2.1, h42.trans hR2.2.2.2.2.2⟩, pj_cut hP hxt hT', (hf3 55 (by decide) (by decide)).trans ((hf 55 (by decide) (by decide) (by decide) (by omega) (by omega)).trans h55)⟩ (by decide) (fun h => absurd h (by decide))⟩
          · exact absurd hpos (by decide)
set_option maxHeartbeats 4000000 in
set_option maxRecDepth 100000 in
theorem j_spent {L : Launch} {D : va_G} {cA : Nat → ClassId} {base : Nat} {ad : Nat → Nat} {w : Nat → va_E} (hJ : JI ad cA w)  : (∃ fs, w 0 = xOb 4 fs) ∧ (∃ fs, w 29 = xOb 5 fs) ∧ ∃ c : Int32, XM L D cA base y_RS_spent c_RS_spent 1 (some .boolean) (xrm 0 0 0) [.ref (ad 0)] 56 ad w (xPure 56 ad w (.int c)) xF ∧ XM L D cA base y_Md_spent c_Md_spent 1 (some .boolean) (xrm 0 0 0) [.ref (ad 29)] 56 ad w (fun v n' ad' w' => 56 = n' ∧ ad = ad' ∧ v = some (.int c) ∧ JI ad cA w') xF := by
  obtain ⟨S, n, rl, rr, co, le9, ch, an, kp, sq, ls, se, sz, f, f42, nr, ns, th, fa, so, g, hS⟩ := hJ
  obtain ⟨hC, hM, hMS, hR, hP, h55⟩ := id hS
  obtain ⟨c0, ckp, cCT, cRS, c12, c13, c14, c15, c16, c17, c18, ck, ck1, sz0, f0, cs, cs1⟩ := id hC
  obtain ⟨pT, pn, pR, pl, pco, pch, ple, pan, psz, pf, pr⟩ := id hP
  obtain ⟨mk, fs9, sn9, wt, pl9, dp, ho, hc, nw, od, t1, t2, t3, t4, t5, t6, t7, t8, t9, t10, t11, tTC⟩ := id cCT
  have hN := pT.1
  have hkq : (kp = 25 ∨ kp = 27) ∧ (sq = 25 ∨ sq = 27) := by omega
  refine ⟨⟨_, c0⟩, ⟨_, js_29 hS⟩, _, m_RS_spent c0, xm_mono (m_Md_spent (js_29 hS)) (fun v n' ad' w' hp => ?_) (fun _ _ _ _ h => h)⟩
  obtain ⟨rfl, rfl, b, rfl, hb, rfl⟩ := hp
  exact ⟨rfl, rfl, by rw [hb], ji_th hS 0⟩
set_option maxHeartbeats 4000000 in
set_option maxRecDepth 100000 in
theorem j_steps {L : Launch} {D : va_G} {cA : Nat → ClassId} {base : Nat} {ad : Nat → Nat} {w : Nat → va_E} (hJ : JI ad cA w)  : (∃ fs, w 0 = xOb 4 fs) ∧ (∃ fs, w 29 = xOb 5 fs) ∧ ∃ c : Int32, XM L D cA base y_RS_steps c_RS_steps 1 (some .int) (xrm 0 0 0) [.ref (ad 0)] 56 ad w (xPure 56 ad w (.int c)) xF ∧ XM L D cA base y_Md_steps c_Md_steps 1 (some .int) (xrm 0 0 0) [.ref (ad 29)] 56 ad w (fun v n' ad' w' => 56 = n' ∧ ad = ad' ∧ v = some (.int c) ∧ JI ad cA w') xF := by
  obtain ⟨S, n, rl, rr, co, le9, ch, an, kp, sq, ls, se, sz, f, f42, nr, ns, th, fa, so, g, hS⟩ := hJ
  obtain ⟨hC, hM, hMS, hR, hP, h55⟩ := id hS
  obtain ⟨c0, ckp, cCT, cRS, c12, c13, c14, c15, c16, c17, c18, ck, ck1, sz0, f0, cs, cs1⟩ := id hC
  obtain ⟨pT, pn, pR, pl, pco, pch, ple, pan, psz, pf, pr⟩ := id hP
  obtain ⟨mk, fs9, sn9, wt, pl9, dp, ho, hc, nw, od, t1, t2, t3, t4, t5, t6, t7, t8, t9, t10, t11, tTC⟩ := id cCT
  have hN := pT.1
  have hkq : (kp = 25 ∨ kp = 27) ∧ (sq = 25 ∨ sq = 27) := by omega
  refine ⟨⟨_, c0⟩, ⟨_, js_29 hS⟩, _, m_RS_steps c0, xm_mono (m_Md_steps (js_29 hS)) (fun v n' ad' w' hp => ?_) (fun _ _ _ _ h => h)⟩
  obtain ⟨rfl, rfl, b, rfl, hb, rfl⟩ := hp
  exact ⟨rfl, rfl, by rw [hb], ji_th hS 0⟩
set_option maxHeartbeats 4000000 in
set_option maxRecDepth 100000 in
theorem j_count {L : Launch} {D : va_G} {cA : Nat → ClassId} {base : Nat} {ad : Nat → Nat} {w : Nat → va_E} (hJ : JI ad cA w) {x : Int} (hx : -2147483648 ≤ x ∧ x < 2147483648) : (∃ fs, w 0 = xOb 4 fs) ∧ (∃ fs, w 29 = xOb 5 fs) ∧ ∃ c : Int32, XM L D cA base y_RS_count c_RS_count 2 (some .int) (xrm 0 0 0) [.ref (ad 0), .int (zI x)] 56 ad w (xPure 56 ad w (.int c)) xF ∧ XM L D cA base y_Md_count c_Md_count 2 (some .int) (xrm 0 0 0) [.ref (ad 29), .int (zI x)] 56 ad w (fun v n' ad' w' => 56 = n' ∧ ad = ad' ∧ v = some (.int c) ∧ JI ad cA w') xF := by
  obtain ⟨S, n, rl, rr, co, le9, ch, an, kp, sq, ls, se, sz, f, f42, nr, ns, th, fa, so, g, hS⟩ := hJ
  obtain ⟨hC, hM, hMS, hR, hP, h55⟩ := id hS
  obtain ⟨c0, ckp, cCT, cRS, c12, c13, c14, c15, c16, c17, c18, ck, ck1, sz0, f0, cs, cs1⟩ := id hC
  obtain ⟨pT, pn, pR, pl, pco, pch, ple, pan, psz, pf, pr⟩ := id hP
  obtain ⟨mk, fs9, sn9, wt, pl9, dp, ho, hc, nw, od, t1, t2, t3, t4, t5, t6, t7, t8, t9, t10, t11, tTC⟩ := id cCT
  have hN := pT.1
  have hkq : (kp = 25 ∨ kp = 27) ∧ (sq = 25 ∨ sq = 27) := by omega
  refine ⟨⟨_, c0⟩, ⟨_, js_29 hS⟩, _, m_RS_count c0 t1 ⟨by omega, by omega⟩ c12 hkq.1 ck hx, xm_mono (m_Md_count (js_29 hS) hx) (fun v n' ad' w' hp => ?_) (fun _ _ _ _ h => h)⟩
  obtain ⟨rfl, rfl, b, rfl, hb, rfl⟩ := hp
  exact ⟨rfl, rfl, by rw [hb], ji_th hS 0⟩
set_option maxHeartbeats 4000000 in
set_option maxRecDepth 100000 in
theorem j_domain {L : Launch} {D : va_G} {cA : Nat → ClassId} {base : Nat} {ad : Nat → Nat} {w : Nat → va_E} (hJ : JI ad cA w)  : (∃ fs, w 0 = xOb 4 fs) ∧ (∃ fs, w 29 = xOb 5 fs) ∧ ∃ c : Int32, XM L D cA base y_RS_domain c_RS_domain 4 (some .int) (xrm 1 0 0) [.ref (ad 0)] 56 ad w (xPure 56 ad w (.int c)) xF ∧ XM L D cA base y_Md_domain c_Md_domain 3 (some .int) (xrm 0 0 0) [.ref (ad 29)] 56 ad w (fun v n' ad' w' => 56 = n' ∧ ad = ad' ∧ v = some (.int c) ∧ JI ad cA w') xF := by
  obtain ⟨S, n, rl, rr, co, le9, ch, an, kp, sq, ls, se, sz, f, f42, nr, ns, th, fa, so, g, hS⟩ := hJ
  obtain ⟨hC, hM, hMS, hR, hP, h55⟩ := id hS
  obtain ⟨c0, ckp, cCT, cRS, c12, c13, c14, c15, c16, c17, c18, ck, ck1, sz0, f0, cs, cs1⟩ := id hC
  obtain ⟨pT, pn, pR, pl, pco, pch, ple, pan, psz, pf, pr⟩ := id hP
  obtain ⟨mk, fs9, sn9, wt, pl9, dp, ho, hc, nw, od, t1, t2, t3, t4, t5, t6, t7, t8, t9, t10, t11, tTC⟩ := id cCT
  have hN := pT.1
  have hkq : (kp = 25 ∨ kp = 27) ∧ (sq = 25 ∨ sq = 27) := by omega
  refine ⟨⟨_, c0⟩, ⟨_, js_29 hS⟩, _, m_RS_domain c0 hkq.1 ck ck1 psz c12 c15 pco pr, xm_mono (m_Md_domain (js_29 hS) hR.2.2.2.2.2 hR.2.2.1 psz pco (fun i hi => by rw [← pf _ (by omega)]; exact pr i hi)) (fun v n' ad' w' hp => ?_) (fun _ _ _ _ h => h)⟩
  obtain ⟨rfl, rfl, rfl, rfl⟩ := hp
  exact ⟨rfl, rfl, by rw [dom_eq sz.toNat (fun i hi => pf _ (by omega))], ji_th hS 0⟩
