set_option maxHeartbeats 4000000 in
set_option maxRecDepth 100000 in
theorem j_head {L : Launch} {D : va_G} {cA : Nat → ClassId} {base : Nat} {ad : Nat → Nat} {w : Nat → va_E} (hLt : L.stackTraces = false) (hJ : JI ad cA w) {x : Int} (hx : -2147483648 ≤ x ∧ x < 2147483648) : XMH L D cA base y_La_head c_La_head 4 (some .int) [(0, 9, 12, 24)] (xrm 10 1 6) [.ref (ad 0), .int (zI x), .ref (ad 55)] 56 ad w (xRet 56 ad (fun k w1 => (∃ fs, w1 29 = xOb 5 fs) ∧ XM L D cA base y_Md_head c_Md_head 2 (some .int) (xrm 1 0 0) [.ref (ad 29), .int (zI x)] 56 ad w1 (xRet 56 ad (fun b w' => JE ad cA k b w')) xF)) := by
  obtain ⟨S, n, rl, rr, co, le9, ch, an, kp, sq, ls, se, sz, f, f42, nr, ns, th, fa, so, g, hS⟩ := hJ
  obtain ⟨hC, hM, hMS, hR, hP, h55⟩ := id hS
  obtain ⟨c0, ckp, cCT, cRS, c12, c13, c14, c15, c16, c17, c18, ck, ck1, sz0, f0, cs, cs1⟩ := id hC
  obtain ⟨pT, pn, pR, pl, pco, pch, ple, pan, psz, pf, pr⟩ := id hP
  obtain ⟨mk, fs9, sn9, wt, pl9, dp, ho, hc, nw, od, t1, t2, t3, t4, t5, t6, t7, t8, t9, t10, t11, tTC⟩ := id cCT
  have hN := pT.1
  have hkq : (kp = 25 ∨ kp = 27) ∧ (sq = 25 ∨ sq = 27) := by omega
  refine xm_monoH (w_La_head (g := g) (m_RS_head hLt c0 t1 ⟨by omega, by omega⟩ t2 hx) c0 (fun z w1 h => by obtain ⟨rfl, -⟩ := h; exact h55) (fun E w1 h => h.2.1)) (fun v n' ad' w' hp => ?_)
  obtain ⟨rfl, rfl, k, rfl, hk⟩ := hp
  refine ⟨rfl, rfl, k, rfl, ?_⟩
  rcases hk with ⟨rfl, z, w1, ⟨rfl, hz, hr⟩, rfl⟩ | ⟨rfl, rfl, -, hr⟩
  · skip
    have J2 := js_out hS (vp_updL g 0 (zI z).toInt64)
    obtain ⟨jC, jM, jS, jR, -, j55⟩ := id J2
    obtain ⟨sg, fs8, sn8, wt8, pl8, dp8, ho8, j29, j30, j31, j32, j33, j34, j35, j36, jA⟩ := id jM
    refine ⟨⟨_, j29⟩, xm_mono (m_Md_head j29 ⟨by omega, by omega⟩ j30 (fun j => (jA.2 j).1) hx) (fun v n' ad' w' hp => ?_) (fun _ _ _ _ h => h)⟩
    obtain ⟨rfl, rfl, b, rfl, hb⟩ := hp
    refine ⟨rfl, rfl, b, rfl, ?_⟩
    rcases hb with ⟨h1, h2, rfl⟩ | ⟨h1, rfl, rfl⟩
    · skip
      exact je_th J2 0 (by decide) (fun _ => by rw [upd0, hz, h2, (tTC.1 _ (by omega)).1, (jA.1 _ (by omega)).1])
    · skip
      exact absurd hr h1
  · skip
    have J2 := hS
    obtain ⟨jC, jM, jS, jR, -, j55⟩ := id J2
    obtain ⟨sg, fs8, sn8, wt8, pl8, dp8, ho8, j29, j30, j31, j32, j33, j34, j35, j36, jA⟩ := id jM
    refine ⟨⟨_, j29⟩, xm_mono (m_Md_head j29 ⟨by omega, by omega⟩ j30 (fun j => (jA.2 j).1) hx) (fun v n' ad' w' hp => ?_) (fun _ _ _ _ h => h)⟩
    obtain ⟨rfl, rfl, b, rfl, hb⟩ := hp
    refine ⟨rfl, rfl, b, rfl, ?_⟩
    rcases hb with ⟨h1, h2, rfl⟩ | ⟨h1, rfl, rfl⟩
    · skip
      exact absurd h1 hr
    · skip
      exact je_th J2 1 (by decide) (fun h => absurd h (by decide))
set_option maxHeartbeats 4000000 in
set_option maxRecDepth 100000 in
theorem j_measure {L : Launch} {D : va_G} {cA : Nat → ClassId} {base : Nat} {ad : Nat → Nat} {w : Nat → va_E} (hLt : L.stackTraces = false) (hJ : JI ad cA w) {x : Int} (hx : -2147483648 ≤ x ∧ x < 2147483648) {y : Int} (hy : -2147483648 ≤ y ∧ y < 2147483648) : XMH L D cA base y_La_measure c_La_measure 5 (some .int) [(0, 10, 13, 24), (0, 10, 17, 13)] (xrm 10 2 12) [.ref (ad 0), .int (zI x), .int (zI y), .ref (ad 55)] 56 ad w (xRet 56 ad (fun k w1 => (∃ fs, w1 29 = xOb 5 fs) ∧ XM L D cA base y_Md_measure c_Md_measure 3 (some .int) (xrm 1 0 0) [.ref (ad 29), .int (zI x), .int (zI y)] 56 ad w1 (xRet 56 ad (fun b w' => JE ad cA k b w')) xF)) := by
  obtain ⟨S, n, rl, rr, co, le9, ch, an, kp, sq, ls, se, sz, f, f42, nr, ns, th, fa, so, g, hS⟩ := hJ
  obtain ⟨hC, hM, hMS, hR, hP, h55⟩ := id hS
  obtain ⟨c0, ckp, cCT, cRS, c12, c13, c14, c15, c16, c17, c18, ck, ck1, sz0, f0, cs, cs1⟩ := id hC
  obtain ⟨pT, pn, pR, pl, pco, pch, ple, pan, psz, pf, pr⟩ := id hP
  obtain ⟨mk, fs9, sn9, wt, pl9, dp, ho, hc, nw, od, t1, t2, t3, t4, t5, t6, t7, t8, t9, t10, t11, tTC⟩ := id cCT
  have hN := pT.1
  have hkq : (kp = 25 ∨ kp = 27) ∧ (sq = 25 ∨ sq = 27) := by omega
  refine xm_monoH (w_La_measure (g := g) (m_RS_measure hLt c0 t1 ⟨by omega, by omega⟩ t5 t6 t7 t8 hx hy) c0 (fun z w1 h => by obtain ⟨rfl, -⟩ := h; exact h55) (fun E w1 h => h.2.elim (fun q => Or.inl q.1) (fun q => Or.inr q.1))) (fun v n' ad' w' hp => ?_)
  obtain ⟨rfl, rfl, k, rfl, hk⟩ := hp
  refine ⟨rfl, rfl, k, rfl, ?_⟩
  rcases hk with ⟨rfl, z, w1, ⟨rfl, hz, hr, hr2⟩, rfl⟩ | ⟨rfl, rfl, hd⟩ | ⟨rfl, rfl, hd⟩
  · skip
    have J2 := js_out hS (vp_updL g 0 (zI z).toInt64)
    obtain ⟨jC, jM, jS, jR, -, j55⟩ := id J2
    obtain ⟨sg, fs8, sn8, wt8, pl8, dp8, ho8, j29, j30, j31, j32, j33, j34, j35, j36, jA⟩ := id jM
    refine ⟨⟨_, j29⟩, xm_mono (m_Md_measure j29 ⟨by omega, by omega⟩ j33 j34 j35 j36 hx hy) (fun v n' ad' w' hp => ?_) (fun _ _ _ _ h => h)⟩
    obtain ⟨rfl, rfl, b, rfl, hb⟩ := hp
    refine ⟨rfl, rfl, b, rfl, ?_⟩
    rcases hb with ⟨h1, h2, h3, rfl⟩ | ⟨h1, rfl, rfl⟩ | ⟨⟨h1, h2⟩, rfl, rfl⟩
    · skip
      exact je_th J2 0 (by decide) (fun _ => (by rw [upd0, hz, h3, (tTC.1 _ (show x.toNat < sN S by omega)).2.2.2.1, (tTC.1 _ (show x.toNat < sN S by omega)).2.2.2.2.1, (tTC.1 _ (show x.toNat < sN S by omega)).2.2.2.2.2.1, (tTC.1 _ (show x.toNat < sN S by omega)).2.2.2.2.2.2, (jA.1 _ (show x.toNat < sN S by omega)).2.2.2.1, (jA.1 _ (show x.toNat < sN S by omega)).2.2.2.2.1, (jA.1 _ (show x.toNat < sN S by omega)).2.2.2.2.2.1, (jA.1 _ (show x.toNat < sN S by omega)).2.2.2.2.2.2]))
    · skip
      exact absurd hr h1
    · skip
      exact absurd hr2 h2
  · skip
    have hr : ¬ (0 ≤ x ∧ x < (sN S : Int)) := hd.elim (fun q => q.2) (fun q => absurd q.1 (by decide +kernel))
    have J2 := hS
    obtain ⟨jC, jM, jS, jR, -, j55⟩ := id J2
    obtain ⟨sg, fs8, sn8, wt8, pl8, dp8, ho8, j29, j30, j31, j32, j33, j34, j35, j36, jA⟩ := id jM
    refine ⟨⟨_, j29⟩, xm_mono (m_Md_measure j29 ⟨by omega, by omega⟩ j33 j34 j35 j36 hx hy) (fun v n' ad' w' hp => ?_) (fun _ _ _ _ h => h)⟩
    obtain ⟨rfl, rfl, b, rfl, hb⟩ := hp
    refine ⟨rfl, rfl, b, rfl, ?_⟩
    rcases hb with ⟨h1, h2, h3, rfl⟩ | ⟨h1, rfl, rfl⟩ | ⟨⟨h1, h2⟩, rfl, rfl⟩
    · skip
      exact absurd h1 hr
    · skip
      exact je_th J2 1 (by decide) (fun h => absurd h (by decide))
    · skip
      exact absurd h1 hr
  · skip
    have hr : (0 ≤ x ∧ x < (sN S : Int)) ∧ ¬ (0 ≤ y ∧ y < 4) := hd.elim (fun q => absurd q.1 (by decide +kernel)) (fun q => q.2)
    have J2 := hS
    obtain ⟨jC, jM, jS, jR, -, j55⟩ := id J2
    obtain ⟨sg, fs8, sn8, wt8, pl8, dp8, ho8, j29, j30, j31, j32, j33, j34, j35, j36, jA⟩ := id jM
    refine ⟨⟨_, j29⟩, xm_mono (m_Md_measure j29 ⟨by omega, by omega⟩ j33 j34 j35 j36 hx hy) (fun v n' ad' w' hp => ?_) (fun _ _ _ _ h => h)⟩
    obtain ⟨rfl, rfl, b, rfl, hb⟩ := hp
    refine ⟨rfl, rfl, b, rfl, ?_⟩
    rcases hb with ⟨h1, h2, h3, rfl⟩ | ⟨h1, rfl, rfl⟩ | ⟨⟨h1, h2⟩, rfl, rfl⟩
    · skip
      exact absurd h2 hr.2
    · skip
      exact absurd hr.1 h1
    · skip
      exact je_th J2 2 (by decide) (fun h => absurd h (by decide))
set_option maxHeartbeats 4000000 in
set_option maxRecDepth 100000 in
theorem j_row {L : Launch} {D : va_G} {cA : Nat → ClassId} {base : Nat} {ad : Nat → Nat} {w : Nat → va_E} (hLt : L.stackTraces = false) (hJ : JI ad cA w) {x : Int} (hx : -2147483648 ≤ x ∧ x < 2147483648) {y : Int} (hy : -2147483648 ≤ y ∧ y < 2147483648) : XMH L D cA base y_La_row c_La_row 5 (some .int) [(0, 10, 13, 24), (0, 10, 17, 13)] (xrm 10 1 6) [.ref (ad 0), .int (zI x), .int (zI y), .ref (ad 55)] 56 ad w (xRet 56 ad (fun k w1 => (∃ fs, w1 29 = xOb 5 fs) ∧ XM L D cA base y_Md_row c_Md_row 3 (some .int) (xrm 0 0 0) [.ref (ad 29), .int (zI x), .int (zI y)] 56 ad w1 (xRet 56 ad (fun b w' => JE ad cA k b w')) xF)) := by
  obtain ⟨S, n, rl, rr, co, le9, ch, an, kp, sq, ls, se, sz, f, f42, nr, ns, th, fa, so, g, hS⟩ := hJ
  obtain ⟨hC, hM, hMS, hR, hP, h55⟩ := id hS
  obtain ⟨c0, ckp, cCT, cRS, c12, c13, c14, c15, c16, c17, c18, ck, ck1, sz0, f0, cs, cs1⟩ := id hC
  obtain ⟨pT, pn, pR, pl, pco, pch, ple, pan, psz, pf, pr⟩ := id hP
  obtain ⟨mk, fs9, sn9, wt, pl9, dp, ho, hc, nw, od, t1, t2, t3, t4, t5, t6, t7, t8, t9, t10, t11, tTC⟩ := id cCT
  have hN := pT.1
  have hkq : (kp = 25 ∨ kp = 27) ∧ (sq = 25 ∨ sq = 27) := by omega
  refine xm_monoH (w_La_row (g := g) (m_RS_row hLt c0 hkq.1 ck ck1 psz hx hy) c0 (fun z w1 h => by obtain ⟨rfl, -⟩ := h; exact h55) (fun E w1 h => h.2.elim (fun q => Or.inl q.1) (fun q => Or.inr q.1))) (fun v n' ad' w' hp => ?_)
  obtain ⟨rfl, rfl, k, rfl, hk⟩ := hp
  refine ⟨rfl, rfl, k, rfl, ?_⟩
  rcases hk with ⟨rfl, z, w1, ⟨rfl, hz, hr, hr2⟩, rfl⟩ | ⟨rfl, rfl, hd⟩ | ⟨rfl, rfl, hd⟩
  · skip
    have J2 := js_out hS (vp_updL g 0 (zI z).toInt64)
    obtain ⟨jC, jM, jS, jR, -, j55⟩ := id J2
    obtain ⟨sg, fs8, sn8, wt8, pl8, dp8, ho8, j29, j30, j31, j32, j33, j34, j35, j36, jA⟩ := id jM
    refine ⟨⟨_, j29⟩, xm_mono (m_Md_row j29 psz jR.2.2.2.2.2 hx hy) (fun v n' ad' w' hp => ?_) (fun _ _ _ _ h => h)⟩
    obtain ⟨rfl, rfl, b, rfl, hb⟩ := hp
    refine ⟨rfl, rfl, b, rfl, ?_⟩
    rcases hb with ⟨h1, h2, h3, rfl⟩ | ⟨h1, rfl, rfl⟩ | ⟨⟨h1, h2⟩, rfl, rfl⟩
    · skip
      exact je_th J2 0 (by decide) (fun _ => by rw [upd0, hz, h3, show (4 * x + y).toNat = (x * 4 + y).toNat by omega, pf _ (by omega)])
    · skip
      exact absurd hr h1
    · skip
      exact absurd hr2 h2
  · skip
    have hr : ¬ (0 ≤ x ∧ x < sz) := hd.elim (fun q => q.2) (fun q => absurd q.1 (by decide +kernel))
    have J2 := hS
    obtain ⟨jC, jM, jS, jR, -, j55⟩ := id J2
    obtain ⟨sg, fs8, sn8, wt8, pl8, dp8, ho8, j29, j30, j31, j32, j33, j34, j35, j36, jA⟩ := id jM
    refine ⟨⟨_, j29⟩, xm_mono (m_Md_row j29 psz jR.2.2.2.2.2 hx hy) (fun v n' ad' w' hp => ?_) (fun _ _ _ _ h => h)⟩
    obtain ⟨rfl, rfl, b, rfl, hb⟩ := hp
    refine ⟨rfl, rfl, b, rfl, ?_⟩
    rcases hb with ⟨h1, h2, h3, rfl⟩ | ⟨h1, rfl, rfl⟩ | ⟨⟨h1, h2⟩, rfl, rfl⟩
    · skip
      exact absurd h1 hr
    · skip
      exact je_th J2 1 (by decide) (fun h => absurd h (by decide))
    · skip
      exact absurd h1 hr
  · skip
    have hr : (0 ≤ x ∧ x < sz) ∧ ¬ (0 ≤ y ∧ y < 4) := hd.elim (fun q => absurd q.1 (by decide +kernel)) (fun q => q.2)
    have J2 := hS
    obtain ⟨jC, jM, jS, jR, -, j55⟩ := id J2
    obtain ⟨sg, fs8, sn8, wt8, pl8, dp8, ho8, j29, j30, j31, j32, j33, j34, j35, j36, jA⟩ := id jM
    refine ⟨⟨_, j29⟩, xm_mono (m_Md_row j29 psz jR.2.2.2.2.2 hx hy) (fun v n' ad' w' hp => ?_) (fun _ _ _ _ h => h)⟩
    obtain ⟨rfl, rfl, b, rfl, hb⟩ := hp
    refine ⟨rfl, rfl, b, rfl, ?_⟩
    rcases hb with ⟨h1, h2, h3, rfl⟩ | ⟨h1, rfl, rfl⟩ | ⟨⟨h1, h2⟩, rfl, rfl⟩
    · skip
      exact absurd h2 hr.2
    · skip
      exact absurd hr.1 h1
    · skip
      exact je_th J2 2 (by decide) (fun h => absurd h (by decide))
set_option maxHeartbeats 4000000 in
set_option maxRecDepth 100000 in
theorem j_at {L : Launch} {D : va_G} {cA : Nat → ClassId} {base : Nat} {ad : Nat → Nat} {w : Nat → va_E} (hLt : L.stackTraces = false) (hJ : JI ad cA w) {x : Int} (hx : -2147483648 ≤ x ∧ x < 2147483648) {y : Int} (hy : -2147483648 ≤ y ∧ y < 2147483648) : XMH L D cA base y_La_at c_La_at 5 (some .int) [(0, 10, 13, 24)] (xrm 10 1 6) [.ref (ad 0), .int (zI x), .int (zI y), .ref (ad 55)] 56 ad w (xRet 56 ad (fun k w1 => (∃ fs, w1 29 = xOb 5 fs) ∧ XM L D cA base y_Md_at c_Md_at 4 (some .int) (xrm 3 0 0) [.ref (ad 29), .int (zI x), .int (zI y)] 56 ad w1 (xRet 56 ad (fun b w' => JE ad cA k b w')) xF)) := by
  obtain ⟨S, n, rl, rr, co, le9, ch, an, kp, sq, ls, se, sz, f, f42, nr, ns, th, fa, so, g, hS⟩ := hJ
  obtain ⟨hC, hM, hMS, hR, hP, h55⟩ := id hS
  obtain ⟨c0, ckp, cCT, cRS, c12, c13, c14, c15, c16, c17, c18, ck, ck1, sz0, f0, cs, cs1⟩ := id hC
  obtain ⟨pT, pn, pR, pl, pco, pch, ple, pan, psz, pf, pr⟩ := id hP
  obtain ⟨mk, fs9, sn9, wt, pl9, dp, ho, hc, nw, od, t1, t2, t3, t4, t5, t6, t7, t8, t9, t10, t11, tTC⟩ := id cCT
  have hN := pT.1
  have hkq : (kp = 25 ∨ kp = 27) ∧ (sq = 25 ∨ sq = 27) := by omega
  refine xm_monoH (w_La_at (g := g) (m_RS_at hLt c0 cCT pT hx hy) c0 (fun z w1 h => by obtain ⟨rfl, -⟩ := h; exact h55) (fun E w1 h => h.2.1)) (fun v n' ad' w' hp => ?_)
  obtain ⟨rfl, rfl, k, rfl, hk⟩ := hp
  refine ⟨rfl, rfl, k, rfl, ?_⟩
  rcases hk with ⟨rfl, z, w1, ⟨rfl, hz, hr⟩, rfl⟩ | ⟨rfl, rfl, -, hr⟩
  · skip
    have J2 := js_out hS (vp_updL g 0 (zI z).toInt64)
    obtain ⟨jC, jM, jS, jR, -, j55⟩ := id J2
    obtain ⟨sg, fs8, sn8, wt8, pl8, dp8, ho8, j29, j30, j31, j32, j33, j34, j35, j36, jA⟩ := id jM
    refine ⟨⟨_, j29⟩, xm_mono (m_Md_at jM pT jS.1.2.1.choose_spec jS.2.1.1.choose_spec hx hy) (fun v n' ad' w' hp => ?_) (fun _ _ _ _ h => h)⟩
    obtain ⟨rfl, rfl, b, rfl, hb⟩ := hp
    refine ⟨rfl, rfl, b, rfl, ?_⟩
    rcases hb with ⟨h1, h2, hMT, h44, h47, hf⟩ | ⟨h1, rfl, rfl⟩
    · skip
      refine je_of (S := S) ⟨cj_fr jC (fun k hk => hf k (by omega) (by omega) (by omega)), hMT, msc_at jS h44 h47 hf, mr_fr jR (fun k a b => hf k (by omega) (by omega) (by omega)), hP, (hf 55 (by decide) (by decide) (by decide)).trans j55⟩ (by decide) (fun _ => by rw [upd0, hz, h2])
    · skip
      exact absurd hr h1
  · skip
    have J2 := hS
    obtain ⟨jC, jM, jS, jR, -, j55⟩ := id J2
    obtain ⟨sg, fs8, sn8, wt8, pl8, dp8, ho8, j29, j30, j31, j32, j33, j34, j35, j36, jA⟩ := id jM
    refine ⟨⟨_, j29⟩, xm_mono (m_Md_at jM pT jS.1.2.1.choose_spec jS.2.1.1.choose_spec hx hy) (fun v n' ad' w' hp => ?_) (fun _ _ _ _ h => h)⟩
    obtain ⟨rfl, rfl, b, rfl, hb⟩ := hp
    refine ⟨rfl, rfl, b, rfl, ?_⟩
    rcases hb with ⟨h1, h2, hMT, h44, h47, hf⟩ | ⟨h1, rfl, rfl⟩
    · skip
      exact absurd h1 hr
    · skip
      exact je_th J2 1 (by decide) (fun h => absurd h (by decide))
set_option maxHeartbeats 4000000 in
set_option maxRecDepth 100000 in
theorem j_above {L : Launch} {D : va_G} {cA : Nat → ClassId} {base : Nat} {ad : Nat → Nat} {w : Nat → va_E} (hLt : L.stackTraces = false) (hJ : JI ad cA w) {x : Int} (hx : -2147483648 ≤ x ∧ x < 2147483648) {y : Int} (hy : -2147483648 ≤ y ∧ y < 2147483648) : XMH L D cA base y_La_above c_La_above 5 (some .int) [(0, 17, 20, 24)] (xrm 10 2 12) [.ref (ad 0), .int (zI x), .int (zI y), .ref (ad 55)] 56 ad w (xRet 56 ad (fun k w1 => (∃ fs, w1 29 = xOb 5 fs) ∧ XM L D cA base y_Md_above c_Md_above 3 (some .boolean) (xrm 5 0 0) [.ref (ad 29), .int (zI x), .int (zI y)] 56 ad w1 (xRet 56 ad (fun b w' => (b = 0 ∨ b = 1) ∧ JE ad cA k b w')) xF)) := by
  obtain ⟨S, n, rl, rr, co, le9, ch, an, kp, sq, ls, se, sz, f, f42, nr, ns, th, fa, so, g, hS⟩ := hJ
  obtain ⟨hC, hM, hMS, hR, hP, h55⟩ := id hS
  obtain ⟨c0, ckp, cCT, cRS, c12, c13, c14, c15, c16, c17, c18, ck, ck1, sz0, f0, cs, cs1⟩ := id hC
  obtain ⟨pT, pn, pR, pl, pco, pch, ple, pan, psz, pf, pr⟩ := id hP
  obtain ⟨mk, fs9, sn9, wt, pl9, dp, ho, hc, nw, od, t1, t2, t3, t4, t5, t6, t7, t8, t9, t10, t11, tTC⟩ := id cCT
  have hN := pT.1
  have hkq : (kp = 25 ∨ kp = 27) ∧ (sq = 25 ∨ sq = 27) := by omega
  refine xm_monoH (w_La_above (g := g) (m_RS_above hLt c0 cCT pT hx hy) c0 (fun z w1 h => by obtain ⟨rfl, -⟩ := h; exact h55) (fun z w1 h => by rw [h.2.1]; exact xb_01) (fun E w1 h => h.2.1)) (fun v n' ad' w' hp => ?_)
  obtain ⟨rfl, rfl, k, rfl, hk⟩ := hp
  refine ⟨rfl, rfl, k, rfl, ?_⟩
  rcases hk with ⟨rfl, z, w1, ⟨rfl, hz, hr⟩, rfl⟩ | ⟨rfl, rfl, -, hr⟩
  · skip
    have J2 := js_out hS (vp_updL g 0 (zI z).toInt64)
    obtain ⟨jC, jM, jS, jR, -, j55⟩ := id J2
    obtain ⟨sg, fs8, sn8, wt8, pl8, dp8, ho8, j29, j30, j31, j32, j33, j34, j35, j36, jA⟩ := id jM
    refine ⟨⟨_, j29⟩, xm_mono (m_Md_above jM pT jS.1 hx hy) (fun v n' ad' w' hp => ?_) (fun _ _ _ _ h => h)⟩
    obtain ⟨rfl, rfl, b, rfl, hb⟩ := hp
    refine ⟨rfl, rfl, b, rfl, ?_⟩
    rcases hb with ⟨h1, h2, hMT, hSA, hf⟩ | ⟨h1, rfl, rfl⟩
    · skip
      refine ⟨by rw [h2]; exact xb_01, je_of (S := S) ⟨cj_fr jC (fun k hk => hf k (by omega) (by omega) (by omega) (by omega) (by omega)), hMT, msc_sa jS hSA hf, mr_fr jR (fun k a b => hf k (by omega) (by omega) (by omega) (by omega) (by omega)), hP, (hf 55 (by decide) (by decide) (by decide) (by decide) (by decide)).trans j55⟩ (by decide) (fun _ => by rw [upd0, hz, h2])⟩
    · skip
      exact absurd hr h1
  · skip
    have J2 := hS
    obtain ⟨jC, jM, jS, jR, -, j55⟩ := id J2
    obtain ⟨sg, fs8, sn8, wt8, pl8, dp8, ho8, j29, j30, j31, j32, j33, j34, j35, j36, jA⟩ := id jM
    refine ⟨⟨_, j29⟩, xm_mono (m_Md_above jM pT jS.1 hx hy) (fun v n' ad' w' hp => ?_) (fun _ _ _ _ h => h)⟩
    obtain ⟨rfl, rfl, b, rfl, hb⟩ := hp
    refine ⟨rfl, rfl, b, rfl, ?_⟩
    rcases hb with ⟨h1, h2, hMT, hSA, hf⟩ | ⟨h1, rfl, rfl⟩
    · skip
      exact absurd h1 hr
    · skip
      exact ⟨Or.inl rfl, je_th J2 1 (by decide) (fun h => absurd h (by decide))⟩
set_option maxHeartbeats 4000000 in
set_option maxRecDepth 100000 in
theorem j_lessens {L : Launch} {D : va_G} {cA : Nat → ClassId} {base : Nat} {ad : Nat → Nat} {w : Nat → va_E} (hLt : L.stackTraces = false) (hJ : JI ad cA w) {x : Int} (hx : -2147483648 ≤ x ∧ x < 2147483648) : XMH L D cA base y_La_lessens c_La_lessens 4 (some .int) [(0, 16, 19, 24)] (xrm 10 1 6) [.ref (ad 0), .int (zI x), .ref (ad 55)] 56 ad w (xRet 56 ad (fun k w1 => (∃ fs, w1 29 = xOb 5 fs) ∧ XM L D cA base y_Md_lessens c_Md_lessens 2 (some .boolean) (xrm 5 0 0) [.ref (ad 29), .int (zI x)] 56 ad w1 (xRet 56 ad (fun b w' => (b = 0 ∨ b = 1) ∧ JE ad cA k b w')) xF)) := by
  obtain ⟨S, n, rl, rr, co, le9, ch, an, kp, sq, ls, se, sz, f, f42, nr, ns, th, fa, so, g, hS⟩ := hJ
  obtain ⟨hC, hM, hMS, hR, hP, h55⟩ := id hS
  obtain ⟨c0, ckp, cCT, cRS, c12, c13, c14, c15, c16, c17, c18, ck, ck1, sz0, f0, cs, cs1⟩ := id hC
  obtain ⟨pT, pn, pR, pl, pco, pch, ple, pan, psz, pf, pr⟩ := id hP
  obtain ⟨mk, fs9, sn9, wt, pl9, dp, ho, hc, nw, od, t1, t2, t3, t4, t5, t6, t7, t8, t9, t10, t11, tTC⟩ := id cCT
  have hN := pT.1
  have hkq : (kp = 25 ∨ kp = 27) ∧ (sq = 25 ∨ sq = 27) := by omega
  refine xm_monoH (w_La_lessens (g := g) (m_RS_lessens hLt c0 c12 ⟨by omega, by omega⟩ c16 ple hx) c0 (fun z w1 h => by obtain ⟨rfl, -⟩ := h; exact h55) (fun z w1 h => by rw [h.2.1]; exact ple _) (fun E w1 h => h.2.1)) (fun v n' ad' w' hp => ?_)
  obtain ⟨rfl, rfl, k, rfl, hk⟩ := hp
  refine ⟨rfl, rfl, k, rfl, ?_⟩
  rcases hk with ⟨rfl, z, w1, ⟨rfl, hz, hr⟩, rfl⟩ | ⟨rfl, rfl, -, hr⟩
  · skip
    have J2 := js_out hS (vp_updL g 0 (zI z).toInt64)
    obtain ⟨jC, jM, jS, jR, -, j55⟩ := id J2
    obtain ⟨sg, fs8, sn8, wt8, pl8, dp8, ho8, j29, j30, j31, j32, j33, j34, j35, j36, jA⟩ := id jM
    refine ⟨⟨_, j29⟩, xm_mono (m_Md_lessens jM pT jS.1 jR.1 jR.2.1 ⟨by omega, by omega⟩ (fun j hj => ⟨(pR j (by omega)).1.1, (pR j (by omega)).1.2.1⟩) (fun j hj => (pR j (by omega)).2.1) hx) (fun v n' ad' w' hp => ?_) (fun _ _ _ _ h => h)⟩
    obtain ⟨rfl, rfl, b, rfl, hb⟩ := hp
    refine ⟨rfl, rfl, b, rfl, ?_⟩
    rcases hb with ⟨h1, h2, hMT, hSA, hf⟩ | ⟨h1, rfl, rfl⟩
    · skip
      refine ⟨by rw [h2]; exact xb_01, je_of (S := S) ⟨cj_fr jC (fun k hk => hf k (by omega) (by omega) (by omega) (by omega) (by omega)), hMT, msc_sa jS hSA hf, mr_fr jR (fun k a b => hf k (by omega) (by omega) (by omega) (by omega) (by omega)), hP, (hf 55 (by decide) (by decide) (by decide) (by decide) (by decide)).trans j55⟩ (by decide) (fun _ => by rw [upd0, hz, h2, pl _ (by omega)])⟩
    · skip
      exact absurd hr h1
  · skip
    have J2 := hS
    obtain ⟨jC, jM, jS, jR, -, j55⟩ := id J2
    obtain ⟨sg, fs8, sn8, wt8, pl8, dp8, ho8, j29, j30, j31, j32, j33, j34, j35, j36, jA⟩ := id jM
    refine ⟨⟨_, j29⟩, xm_mono (m_Md_lessens jM pT jS.1 jR.1 jR.2.1 ⟨by omega, by omega⟩ (fun j hj => ⟨(pR j (by omega)).1.1, (pR j (by omega)).1.2.1⟩) (fun j hj => (pR j (by omega)).2.1) hx) (fun v n' ad' w' hp => ?_) (fun _ _ _ _ h => h)⟩
    obtain ⟨rfl, rfl, b, rfl, hb⟩ := hp
    refine ⟨rfl, rfl, b, rfl, ?_⟩
    rcases hb with ⟨h1, h2, hMT, hSA, hf⟩ | ⟨h1, rfl, rfl⟩
    · skip
      exact absurd h1 hr
    · skip
      exact ⟨Or.inl rfl, je_th J2 1 (by decide) (fun h => absurd h (by decide))⟩
set_option maxHeartbeats 4000000 in
set_option maxRecDepth 100000 in
theorem j_usable {L : Launch} {D : va_G} {cA : Nat → ClassId} {base : Nat} {ad : Nat → Nat} {w : Nat → va_E} (hLt : L.stackTraces = false) (hJ : JI ad cA w) {x : Int} (hx : -2147483648 ≤ x ∧ x < 2147483648) : XMH L D cA base y_La_usable c_La_usable 4 (some .int) [(0, 16, 19, 24)] (xrm 10 1 6) [.ref (ad 0), .int (zI x), .ref (ad 55)] 56 ad w (xRet 56 ad (fun k w1 => (∃ fs, w1 29 = xOb 5 fs) ∧ XM L D cA base y_Md_usable c_Md_usable 2 (some .boolean) (xrm 1 0 0) [.ref (ad 29), .int (zI x)] 56 ad w1 (xRet 56 ad (fun b w' => (b = 0 ∨ b = 1) ∧ JE ad cA k b w')) xF)) := by
  obtain ⟨S, n, rl, rr, co, le9, ch, an, kp, sq, ls, se, sz, f, f42, nr, ns, th, fa, so, g, hS⟩ := hJ
  obtain ⟨hC, hM, hMS, hR, hP, h55⟩ := id hS
  obtain ⟨c0, ckp, cCT, cRS, c12, c13, c14, c15, c16, c17, c18, ck, ck1, sz0, f0, cs, cs1⟩ := id hC
  obtain ⟨pT, pn, pR, pl, pco, pch, ple, pan, psz, pf, pr⟩ := id hP
  obtain ⟨mk, fs9, sn9, wt, pl9, dp, ho, hc, nw, od, t1, t2, t3, t4, t5, t6, t7, t8, t9, t10, t11, tTC⟩ := id cCT
  have hN := pT.1
  have hkq : (kp = 25 ∨ kp = 27) ∧ (sq = 25 ∨ sq = 27) := by omega
  refine xm_monoH (w_La_usable (g := g) (m_RS_usable hLt c0 c12 ⟨by omega, by omega⟩ c15 c17 c18 pco pch pan hx) c0 (fun z w1 h => by obtain ⟨rfl, -⟩ := h; exact h55) (fun z w1 h => by rw [h.2.1]; exact xb_01) (fun E w1 h => h.2.1)) (fun v n' ad' w' hp => ?_)
  obtain ⟨rfl, rfl, k, rfl, hk⟩ := hp
  refine ⟨rfl, rfl, k, rfl, ?_⟩
  rcases hk with ⟨rfl, z, w1, ⟨rfl, hz, hr⟩, rfl⟩ | ⟨rfl, rfl, -, hr⟩
  · skip
    have J2 := js_out hS (vp_updL g 0 (zI z).toInt64)
    obtain ⟨jC, jM, jS, jR, -, j55⟩ := id J2
    obtain ⟨sg, fs8, sn8, wt8, pl8, dp8, ho8, j29, j30, j31, j32, j33, j34, j35, j36, jA⟩ := id jM
    refine ⟨⟨_, j29⟩, xm_mono (m_Md_usable j29 jR.2.2.1 jR.2.2.2.1 jR.2.2.2.2.1 pco pch pan ⟨by omega, by omega⟩ hx) (fun v n' ad' w' hp => ?_) (fun _ _ _ _ h => h)⟩
    obtain ⟨rfl, rfl, b, rfl, hb⟩ := hp
    refine ⟨rfl, rfl, b, rfl, ?_⟩
    rcases hb with ⟨h1, h2, rfl⟩ | ⟨h1, rfl, rfl⟩
    · skip
      exact ⟨by rw [h2]; exact xb_01, je_th J2 0 (by decide) (fun _ => by rw [upd0, hz, h2])⟩
    · skip
      exact absurd hr h1
  · skip
    have J2 := hS
    obtain ⟨jC, jM, jS, jR, -, j55⟩ := id J2
    obtain ⟨sg, fs8, sn8, wt8, pl8, dp8, ho8, j29, j30, j31, j32, j33, j34, j35, j36, jA⟩ := id jM
    refine ⟨⟨_, j29⟩, xm_mono (m_Md_usable j29 jR.2.2.1 jR.2.2.2.1 jR.2.2.2.2.1 pco pch pan ⟨by omega, by omega⟩ hx) (fun v n' ad' w' hp => ?_) (fun _ _ _ _ h => h)⟩
    obtain ⟨rfl, rfl, b, rfl, hb⟩ := hp
    refine ⟨rfl, rfl, b, rfl, ?_⟩
    rcases hb with ⟨h1, h2, rfl⟩ | ⟨h1, rfl, rfl⟩
    · skip
      exact absurd h1 hr
    · skip
      exact ⟨Or.inl rfl, je_th J2 1 (by decide) (fun h => absurd h (by decide))⟩
set_option maxHeartbeats 4000000 in
set_option maxRecDepth 100000 in
theorem j_choose {L : Launch} {D : va_G} {cA : Nat → ClassId} {base : Nat} {ad : Nat → Nat} {w : Nat → va_E} (hLt : L.stackTraces = false) (hJ : JI ad cA w) {x : Int} (hx : -2147483648 ≤ x ∧ x < 2147483648) {on : Bool} : XMH L D cA base y_La_choose c_La_choose 5 (some .int) [(0, 17, 20, 24)] (xrm 10 1 6) [.ref (ad 0), .int (zI x), .int (zI (xb on)), .ref (ad 55)] 56 ad w (xRet 56 ad (fun k w1 => (∃ fs, w1 29 = xOb 5 fs) ∧ XM L D cA base y_Md_choose c_Md_choose 4 (some .boolean) (xrm 1 0 0) [.ref (ad 29), .int (zI x), .int (zI (xb on))] 56 ad w1 (xRet 56 ad (fun b w' => (b = 0 ∨ b = 1) ∧ JE ad cA k b w')) xF)) := by
  obtain ⟨S, n, rl, rr, co, le9, ch, an, kp, sq, ls, se, sz, f, f42, nr, ns, th, fa, so, g, hS⟩ := hJ
  obtain ⟨hC, hM, hMS, hR, hP, h55⟩ := id hS
  obtain ⟨c0, ckp, cCT, cRS, c12, c13, c14, c15, c16, c17, c18, ck, ck1, sz0, f0, cs, cs1⟩ := id hC
  obtain ⟨pT, pn, pR, pl, pco, pch, ple, pan, psz, pf, pr⟩ := id hP
  obtain ⟨mk, fs9, sn9, wt, pl9, dp, ho, hc, nw, od, t1, t2, t3, t4, t5, t6, t7, t8, t9, t10, t11, tTC⟩ := id cCT
  have hN := pT.1
  have hkq : (kp = 25 ∨ kp = 27) ∧ (sq = 25 ∨ sq = 27) := by omega
  refine xm_monoH (w_La_choose (g := g) (m_RS_choose hLt c0 c12 ⟨by omega, by omega⟩ c15 c17 c18 pco pch pan hx (on := on)) c0 (fun z w1 h => by obtain ⟨rfl, -⟩ := h; exact h55) (fun z w1 h => by rw [h.2.1]; exact xb_01) (fun E w1 h => h.2.1)) (fun v n' ad' w' hp => ?_)
  obtain ⟨rfl, rfl, k, rfl, hk⟩ := hp
  refine ⟨rfl, rfl, k, rfl, ?_⟩
  rcases hk with ⟨rfl, z, w1, ⟨rfl, hz, hr⟩, rfl⟩ | ⟨rfl, rfl, -, hr⟩
  · skip
    have jM := mt_fr (w' := va_up (va_up w 17 (xIA (cA 1) 16 (va_up ch x.toNat (xb on)))) 55 (xLA (cA 2) 1 (vp_updL g 0 (zI z).toInt64))) hM (fun k a b => (va_ne (by omega)).trans (va_ne (by omega)))
    have jR := mr_fr (w' := va_up (va_up w 17 (xIA (cA 1) 16 (va_up ch x.toNat (xb on)))) 55 (xLA (cA 2) 1 (vp_updL g 0 (zI z).toInt64))) hR (fun k a b => (va_ne (by omega)).trans (va_ne (by omega)))
    obtain ⟨sg, fs8, sn8, wt8, pl8, dp8, ho8, j29, j30, j31, j32, j33, j34, j35, j36, jA⟩ := id jM
    refine ⟨⟨_, j29⟩, xm_mono (m_Md_choose (on := on) j29 jR.2.2.1 jR.2.2.2.1 jR.2.2.2.2.1 pco pch pan ⟨by omega, by omega⟩ hx) (fun v n' ad' w' hp => ?_) (fun _ _ _ _ h => h)⟩
    obtain ⟨rfl, rfl, b, rfl, hb⟩ := hp
    refine ⟨rfl, rfl, b, rfl, ?_⟩
    rcases hb with ⟨h1, h2, rfl⟩ | ⟨h1, rfl, rfl⟩
    · exact ⟨by rw [h2]; exact xb_01, je_of (S := S) ⟨cj_ru hC (fun k a b => (va_ne (by omega)).trans ((va_ne (by omega)).trans ((va_ne (by omega)).trans (va_ne (by omega))))) c12 c13 c14 c15 c16 rfl c18, mt_29 jM rfl (fun k a b => (va_ne (by omega)).trans (va_ne (by omega))), msc_fr hMS (fun k a b => (va_ne (by omega)).trans ((va_ne (by omega)).trans ((va_ne (by omega)).trans (va_ne (by omega))))), ⟨hR.1, hR.2.1, hR.2.2.1, rfl, hR.2.2.2.2.1, hR.2.2.2.2.2⟩, pj_ch hP, rfl⟩ (by decide) (fun _ => by rw [upd0, hz, h2])⟩
    · exact absurd hr h1
  · skip
    have J2 := hS
    obtain ⟨jC, jM, jS, jR, -, j55⟩ := id J2
    obtain ⟨sg, fs8, sn8, wt8, pl8, dp8, ho8, j29, j30, j31, j32, j33, j34, j35, j36, jA⟩ := id jM
    refine ⟨⟨_, j29⟩, xm_mono (m_Md_choose (on := on) j29 jR.2.2.1 jR.2.2.2.1 jR.2.2.2.2.1 pco pch pan ⟨by omega, by omega⟩ hx) (fun v n' ad' w' hp => ?_) (fun _ _ _ _ h => h)⟩
    obtain ⟨rfl, rfl, b, rfl, hb⟩ := hp
    refine ⟨rfl, rfl, b, rfl, ?_⟩
    rcases hb with ⟨h1, h2, rfl⟩ | ⟨h1, rfl, rfl⟩
    · exact absurd h1 hr
    · exact ⟨Or.inl rfl, je_th J2 1 (by decide) (fun h => absurd h (by decide))⟩
set_option maxHeartbeats 4000000 in
set_option maxRecDepth 100000 in
theorem j_holds {L : Launch} {D : va_G} {cA : Nat → ClassId} {base : Nat} {ad : Nat → Nat} {w : Nat → va_E} (hLt : L.stackTraces = false) (hJ : JI ad cA w) {x : Int} (hx : -2147483648 ≤ x ∧ x < 2147483648) {y : Int} (hy : -2147483648 ≤ y ∧ y < 2147483648) : XMH L D cA base y_La_holds c_La_holds 5 (some .int) [(0, 17, 20, 13)] (xrm 10 1 6) [.ref (ad 0), .int (zI x), .int (zI y), .ref (ad 55)] 56 ad w (xRet 56 ad (fun k w1 => (∃ fs, w1 29 = xOb 5 fs) ∧ XM L D cA base y_Md_holds c_Md_holds 4 (some .boolean) (xrm 0 0 0) [.ref (ad 29), .int (zI x), .int (zI y)] 56 ad w1 (xRet 56 ad (fun b w' => (b = 0 ∨ b = 1) ∧ JE ad cA k b w')) xF)) := by
  obtain ⟨S, n, rl, rr, co, le9, ch, an, kp, sq, ls, se, sz, f, f42, nr, ns, th, fa, so, g, hS⟩ := hJ
  obtain ⟨hC, hM, hMS, hR, hP, h55⟩ := id hS
  obtain ⟨c0, ckp, cCT, cRS, c12, c13, c14, c15, c16, c17, c18, ck, ck1, sz0, f0, cs, cs1⟩ := id hC
  obtain ⟨pT, pn, pR, pl, pco, pch, ple, pan, psz, pf, pr⟩ := id hP
  obtain ⟨mk, fs9, sn9, wt, pl9, dp, ho, hc, nw, od, t1, t2, t3, t4, t5, t6, t7, t8, t9, t10, t11, tTC⟩ := id cCT
  have hN := pT.1
  have hkq : (kp = 25 ∨ kp = 27) ∧ (sq = 25 ∨ sq = 27) := by omega
  refine xm_monoH (w_La_holds (g := g) (m_RS_holds hLt c0 c12 ⟨by omega, by omega⟩ c15 c17 c18 pco pch pan hx hy) c0 (fun z w1 h => by obtain ⟨rfl, -⟩ := h; exact h55) (fun z w1 h => by rw [h.2.1]; exact xb_01) (fun E w1 h => h.2.1)) (fun v n' ad' w' hp => ?_)
  obtain ⟨rfl, rfl, k, rfl, hk⟩ := hp
  refine ⟨rfl, rfl, k, rfl, ?_⟩
  rcases hk with ⟨rfl, z, w1, ⟨rfl, hz, hr⟩, rfl⟩ | ⟨rfl, rfl, -, hr⟩
  · skip
    have jM := mt_fr (w' := va_up (va_up w 18 (xIA (cA 0) 10 (va_up an x.toNat y))) 55 (xLA (cA 2) 1 (vp_updL g 0 (zI z).toInt64))) hM (fun k a b => (va_ne (by omega)).trans (va_ne (by omega)))
    have jR := mr_fr (w' := va_up (va_up w 18 (xIA (cA 0) 10 (va_up an x.toNat y))) 55 (xLA (cA 2) 1 (vp_updL g 0 (zI z).toInt64))) hR (fun k a b => (va_ne (by omega)).trans (va_ne (by omega)))
    obtain ⟨sg, fs8, sn8, wt8, pl8, dp8, ho8, j29, j30, j31, j32, j33, j34, j35, j36, jA⟩ := id jM
    refine ⟨⟨_, j29⟩, xm_mono (m_Md_holds j29 jR.2.2.1 jR.2.2.2.1 jR.2.2.2.2.1 pco pch pan ⟨by omega, by omega⟩ hx hy) (fun v n' ad' w' hp => ?_) (fun _ _ _ _ h => h)⟩
    obtain ⟨rfl, rfl, b, rfl, hb⟩ := hp
    refine ⟨rfl, rfl, b, rfl, ?_⟩
    rcases hb with ⟨h1, h2, rfl⟩ | ⟨h1, rfl, rfl⟩
    · exact ⟨by rw [h2]; exact xb_01, je_of (S := S) ⟨cj_ru hC (fun k a b => (va_ne (by omega)).trans ((va_ne (by omega)).trans ((va_ne (by omega)).trans (va_ne (by omega))))) c12 c13 c14 c15 c16 c17 rfl, mt_29 jM rfl (fun k a b => (va_ne (by omega)).trans (va_ne (by omega))), msc_fr hMS (fun k a b => (va_ne (by omega)).trans ((va_ne (by omega)).trans ((va_ne (by omega)).trans (va_ne (by omega))))), ⟨hR.1, hR.2.1, hR.2.2.1, hR.2.2.2.1, rfl, hR.2.2.2.2.2⟩, pj_an hP hr.2, rfl⟩ (by decide) (fun _ => by rw [upd0, hz, h2])⟩
    · exact absurd hr h1
  · skip
    have J2 := hS
    obtain ⟨jC, jM, jS, jR, -, j55⟩ := id J2
    obtain ⟨sg, fs8, sn8, wt8, pl8, dp8, ho8, j29, j30, j31, j32, j33, j34, j35, j36, jA⟩ := id jM
    refine ⟨⟨_, j29⟩, xm_mono (m_Md_holds j29 jR.2.2.1 jR.2.2.2.1 jR.2.2.2.2.1 pco pch pan ⟨by omega, by omega⟩ hx hy) (fun v n' ad' w' hp => ?_) (fun _ _ _ _ h => h)⟩
    obtain ⟨rfl, rfl, b, rfl, hb⟩ := hp
    refine ⟨rfl, rfl, b, rfl, ?_⟩
    rcases hb with ⟨h1, h2, rfl⟩ | ⟨h1, rfl, rfl⟩
    · exact absurd h1 hr
    · exact ⟨Or.inl rfl, je_th J2 1 (by decide) (fun h => absurd h (by decide))⟩
set_option maxHeartbeats 4000000 in
set_option maxRecDepth 100000 in
theorem j_leaf {L : Launch} {D : va_G} {cA : Nat → ClassId} {base : Nat} {ad : Nat → Nat} {w : Nat → va_E} (hLt : L.stackTraces = false) (hJ : JI ad cA w) {x : Int} (hx : -2147483648 ≤ x ∧ x < 2147483648) : XMH L D cA base y_La_leaf c_La_leaf 4 (some .int) [(0, 9, 12, 13), (0, 9, 15, 15)] (xrm 10 1 6) [.ref (ad 0), .int (zI x), .ref (ad 55)] 56 ad w (xRet 56 ad (fun k w1 => (∃ fs, w1 29 = xOb 5 fs) ∧ XM L D cA base y_Md_leaf c_Md_leaf 2 (some .int) (xrm 3 0 0) [.ref (ad 29), .int (zI x)] 56 ad w1 (xRet 56 ad (fun b w' => JE ad cA k b w')) xF)) := by
  obtain ⟨S, n, rl, rr, co, le9, ch, an, kp, sq, ls, se, sz, f, f42, nr, ns, th, fa, so, g, hS⟩ := hJ
  obtain ⟨hC, hM, hMS, hR, hP, h55⟩ := id hS
  obtain ⟨c0, ckp, cCT, cRS, c12, c13, c14, c15, c16, c17, c18, ck, ck1, sz0, f0, cs, cs1⟩ := id hC
  obtain ⟨pT, pn, pR, pl, pco, pch, ple, pan, psz, pf, pr⟩ := id hP
  obtain ⟨mk, fs9, sn9, wt, pl9, dp, ho, hc, nw, od, t1, t2, t3, t4, t5, t6, t7, t8, t9, t10, t11, tTC⟩ := id cCT
  have hN := pT.1
  have hkq : (kp = 25 ∨ kp = 27) ∧ (sq = 25 ∨ sq = 27) := by omega
  refine xm_monoH (w_La_leaf (g := g) (m_RS_leaf hLt c0 cCT pT hx) c0 (fun z w1 h => by obtain ⟨hr, S', he, hz, hT', hC', hf⟩ := h; exact (hf 55 (by decide)).trans h55) (fun E w1 h => h.elim (fun q => Or.inl q.1) (fun q => Or.inr q.1))) (fun v n' ad' w' hp => ?_)
  obtain ⟨rfl, rfl, k, rfl, hk⟩ := hp
  refine ⟨rfl, rfl, k, rfl, ?_⟩
  rcases hk with ⟨rfl, z, w1, ⟨hr, S', he, hz, hT', hC', hf⟩, rfl⟩ | ⟨rfl, hd⟩ | ⟨rfl, hd⟩
  · have hM2 := mt_fr (w' := va_up w1 55 (xLA (cA 2) 1 (vp_updL g 0 (zI z).toInt64))) hM (fun k a b => (va_ne (by omega)).trans (hf k (by omega)))
    refine ⟨⟨_, hM2.choose_spec.choose_spec.choose_spec.choose_spec.choose_spec.choose_spec.choose_spec.1⟩, xm_mono (m_Md_leaf hM2 pT hx) (fun v n' ad' w' hp => ?_) (fun _ _ _ _ h => h)⟩
    obtain ⟨rfl, rfl, b, rfl, hb⟩ := hp
    refine ⟨rfl, rfl, b, rfl, ?_⟩
    rcases hb with ⟨h1, S2, z2, he2, hv, hMT, hf3⟩ | ⟨h1, rfl, rfl⟩
    · obtain ⟨rfl, rfl⟩ := Prod.mk.inj (he2.trans he.symm)
      rw [if_neg (by omega)] at hv hMT
      exact je_of (S := S2) ⟨cj_ct hC (ct_fr hC' (fun k a b => (hf3 k (by omega)).trans (va_ne (by omega)))) (fun k a b => (hf3 k (by omega)).trans ((va_ne (by omega)).trans (hf k a))), hMT, msc_fr hMS (fun k a b => (hf3 k (by omega)).trans ((va_ne (by omega)).trans (hf k (by omega)))), mr_fr hR (fun k a b => (hf3 k (by omega)).trans ((va_ne (by omega)).trans (hf k (by omega)))), pj_xt hP (mkT_xt he) hT', (hf3 55 (by decide)).trans va_eq⟩ (by decide) (fun _ => by rw [upd0, hv])
    · exact absurd hr h1
  · obtain ⟨hr, rfl⟩ := hd.elim (fun q => q.2) (fun q => absurd q.1 (by decide +kernel))
    obtain ⟨jC, jM, jS, jR, -, j55⟩ := id hS
    have J2 := hS
    refine ⟨⟨_, js_29 hS⟩, xm_mono (m_Md_leaf hM pT hx) (fun v n' ad' w' hp => ?_) (fun _ _ _ _ h => h)⟩
    obtain ⟨rfl, rfl, b, rfl, hb⟩ := hp
    refine ⟨rfl, rfl, b, rfl, ?_⟩
    rcases hb with ⟨h1, S2, z2, he2, hv, hMT, hf3⟩ | ⟨h1, rfl, rfl⟩
    · exact absurd h1 hr
    · exact je_th J2 1 (by decide) (fun h => absurd h (by decide))
  · obtain ⟨hr, S', z, he, hz, hC', hf⟩ := hd.elim (fun q => absurd q.1 (by decide +kernel)) (fun q => q.2)
    have hM2 := mt_fr hM (fun k a b => hf k (by omega))
    refine ⟨⟨_, hM2.choose_spec.choose_spec.choose_spec.choose_spec.choose_spec.choose_spec.choose_spec.1⟩, xm_mono (m_Md_leaf hM2 pT hx) (fun v n' ad' w' hp => ?_) (fun _ _ _ _ h => h)⟩
    obtain ⟨rfl, rfl, b, rfl, hb⟩ := hp
    refine ⟨rfl, rfl, b, rfl, ?_⟩
    rcases hb with ⟨h1, S2, z2, he2, hv, hMT, hf3⟩ | ⟨h1, rfl, rfl⟩
    · obtain ⟨rfl, rfl⟩ := Prod.mk.inj (he2.trans he.symm)
      rw [if_pos hz] at hv hMT
      have e9 := mkT_neg he hz
      rw [e9] at hMT
      exact je_of (S := S) ⟨cj_ct hC (ct_fr hC' (fun k a b => hf3 k (by omega))) (fun k a b => (hf3 k (by omega)).trans (hf k a)), hMT, msc_fr hMS (fun k a b => (hf3 k (by omega)).trans (hf k (by omega))), mr_fr hR (fun k a b => (hf3 k (by omega)).trans (hf k (by omega))), hP, (hf3 55 (by decide)).trans ((hf 55 (by decide)).trans h55)⟩ (by decide) (fun h => absurd h (by decide))
    · exact absurd hr h1
set_option maxHeartbeats 4000000 in
set_option maxRecDepth 100000 in
theorem j_hole {L : Launch} {D : va_G} {cA : Nat → ClassId} {base : Nat} {ad : Nat → Nat} {w : Nat → va_E} (hLt : L.stackTraces = false) (hJ : JI ad cA w) {x : Int} (hx : -2147483648 ≤ x ∧ x < 2147483648) : XMH L D cA base y_La_hole c_La_hole 4 (some .int) [(0, 9, 12, 13), (0, 9, 15, 15)] (xrm 10 1 6) [.ref (ad 0), .int (zI x), .ref (ad 55)] 56 ad w (xRet 56 ad (fun k w1 => (∃ fs, w1 29 = xOb 5 fs) ∧ XM L D cA base y_Md_hole c_Md_hole 2 (some .int) (xrm 3 0 0) [.ref (ad 29), .int (zI x)] 56 ad w1 (xRet 56 ad (fun b w' => JE ad cA k b w')) xF)) := by
  obtain ⟨S, n, rl, rr, co, le9, ch, an, kp, sq, ls, se, sz, f, f42, nr, ns, th, fa, so, g, hS⟩ := hJ
  obtain ⟨hC, hM, hMS, hR, hP, h55⟩ := id hS
  obtain ⟨c0, ckp, cCT, cRS, c12, c13, c14, c15, c16, c17, c18, ck, ck1, sz0, f0, cs, cs1⟩ := id hC
  obtain ⟨pT, pn, pR, pl, pco, pch, ple, pan, psz, pf, pr⟩ := id hP
  obtain ⟨mk, fs9, sn9, wt, pl9, dp, ho, hc, nw, od, t1, t2, t3, t4, t5, t6, t7, t8, t9, t10, t11, tTC⟩ := id cCT
  have hN := pT.1
  have hkq : (kp = 25 ∨ kp = 27) ∧ (sq = 25 ∨ sq = 27) := by omega
  refine xm_monoH (w_La_hole (g := g) (m_RS_hole hLt c0 cCT pT hx) c0 (fun z w1 h => by obtain ⟨hr, S', he, hz, hT', hC', hf⟩ := h; exact (hf 55 (by decide)).trans h55) (fun E w1 h => h.elim (fun q => Or.inl q.1) (fun q => Or.inr q.1))) (fun v n' ad' w' hp => ?_)
  obtain ⟨rfl, rfl, k, rfl, hk⟩ := hp
  refine ⟨rfl, rfl, k, rfl, ?_⟩
  rcases hk with ⟨rfl, z, w1, ⟨hr, S', he, hz, hT', hC', hf⟩, rfl⟩ | ⟨rfl, hd⟩ | ⟨rfl, hd⟩
  · have hM2 := mt_fr (w' := va_up w1 55 (xLA (cA 2) 1 (vp_updL g 0 (zI z).toInt64))) hM (fun k a b => (va_ne (by omega)).trans (hf k (by omega)))
    refine ⟨⟨_, hM2.choose_spec.choose_spec.choose_spec.choose_spec.choose_spec.choose_spec.choose_spec.1⟩, xm_mono (m_Md_hole hM2 pT hx) (fun v n' ad' w' hp => ?_) (fun _ _ _ _ h => h)⟩
    obtain ⟨rfl, rfl, b, rfl, hb⟩ := hp
    refine ⟨rfl, rfl, b, rfl, ?_⟩
    rcases hb with ⟨h1, S2, z2, he2, hv, hMT, hf3⟩ | ⟨h1, rfl, rfl⟩
    · obtain ⟨rfl, rfl⟩ := Prod.mk.inj (he2.trans he.symm)
      rw [if_neg (by omega)] at hv hMT
      exact je_of (S := S2) ⟨cj_ct hC (ct_fr hC' (fun k a b => (hf3 k (by omega)).trans (va_ne (by omega)))) (fun k a b => (hf3 k (by omega)).trans ((va_ne (by omega)).trans (hf k a))), hMT, msc_fr hMS (fun k a b => (hf3 k (by omega)).trans ((va_ne (by omega)).trans (hf k (by omega)))), mr_fr hR (fun k a b => (hf3 k (by omega)).trans ((va_ne (by omega)).trans (hf k (by omega)))), pj_xt hP (mkT_xt he) hT', (hf3 55 (by decide)).trans va_eq⟩ (by decide) (fun _ => by rw [upd0, hv])
    · exact absurd hr h1
  · obtain ⟨hr, rfl⟩ := hd.elim (fun q => q.2) (fun q => absurd q.1 (by decide +kernel))
    obtain ⟨jC, jM, jS, jR, -, j55⟩ := id hS
    have J2 := hS
    refine ⟨⟨_, js_29 hS⟩, xm_mono (m_Md_hole hM pT hx) (fun v n' ad' w' hp => ?_) (fun _ _ _ _ h => h)⟩
    obtain ⟨rfl, rfl, b, rfl, hb⟩ := hp
    refine ⟨rfl, rfl, b, rfl, ?_⟩
    rcases hb with ⟨h1, S2, z2, he2, hv, hMT, hf3⟩ | ⟨h1, rfl, rfl⟩
    · exact absurd h1 hr
    · exact je_th J2 1 (by decide) (fun h => absurd h (by decide))
  · obtain ⟨hr, S', z, he, hz, hC', hf⟩ := hd.elim (fun q => absurd q.1 (by decide +kernel)) (fun q => q.2)
    have hM2 := mt_fr hM (fun k a b => hf k (by omega))
    refine ⟨⟨_, hM2.choose_spec.choose_spec.choose_spec.choose_spec.choose_spec.choose_spec.choose_spec.1⟩, xm_mono (m_Md_hole hM2 pT hx) (fun v n' ad' w' hp => ?_) (fun _ _ _ _ h => h)⟩
    obtain ⟨rfl, rfl, b, rfl, hb⟩ := hp
    refine ⟨rfl, rfl, b, rfl, ?_⟩
    rcases hb with ⟨h1, S2, z2, he2, hv, hMT, hf3⟩ | ⟨h1, rfl, rfl⟩
    · obtain ⟨rfl, rfl⟩ := Prod.mk.inj (he2.trans he.symm)
      rw [if_pos hz] at hv hMT
      have e9 := mkT_neg he hz
      rw [e9] at hMT
      exact je_of (S := S) ⟨cj_ct hC (ct_fr hC' (fun k a b => hf3 k (by omega))) (fun k a b => (hf3 k (by omega)).trans (hf k a)), hMT, msc_fr hMS (fun k a b => (hf3 k (by omega)).trans (hf k (by omega))), mr_fr hR (fun k a b => (hf3 k (by omega)).trans (hf k (by omega))), hP, (hf3 55 (by decide)).trans ((hf 55 (by decide)).trans h55)⟩ (by decide) (fun h => absurd h (by decide))
    · exact absurd hr h1
set_option maxHeartbeats 4000000 in
set_option maxRecDepth 100000 in
theorem j_node {L : Launch} {D : va_G} {cA : Nat → ClassId} {base : Nat} {ad : Nat → Nat} {w : Nat → va_E} (hLt : L.stackTraces = false) (hJ : JI ad cA w) {x : Int} (hx : -2147483648 ≤ x ∧ x < 2147483648) {y : Int} (hy : -2147483648 ≤ y ∧ y < 2147483648) {u : Int} (hu : -2147483648 ≤ u ∧ u < 2147483648) : XMH L D cA base y_La_node c_La_node 6 (some .int) [(0, 12, 15, 24), (0, 12, 19, 13), (0, 12, 23, 15)] (xrm 10 3 18) [.ref (ad 0), .int (zI x), .int (zI y), .int (zI u), .ref (ad 55)] 56 ad w (xRet 56 ad (fun k w1 => (∃ fs, w1 29 = xOb 5 fs) ∧ XM L D cA base y_Md_node c_Md_node 6 (some .int) (xrm 3 0 0) [.ref (ad 29), .int (zI x), .int (zI y), .int (zI u)] 56 ad w1 (xRet 56 ad (fun b w' => JE ad cA k b w')) xF)) := by
  obtain ⟨S, n, rl, rr, co, le9, ch, an, kp, sq, ls, se, sz, f, f42, nr, ns, th, fa, so, g, hS⟩ := hJ
  obtain ⟨hC, hM, hMS, hR, hP, h55⟩ := id hS
  obtain ⟨c0, ckp, cCT, cRS, c12, c13, c14, c15, c16, c17, c18, ck, ck1, sz0, f0, cs, cs1⟩ := id hC
  obtain ⟨pT, pn, pR, pl, pco, pch, ple, pan, psz, pf, pr⟩ := id hP
  obtain ⟨mk, fs9, sn9, wt, pl9, dp, ho, hc, nw, od, t1, t2, t3, t4, t5, t6, t7, t8, t9, t10, t11, tTC⟩ := id cCT
  have hN := pT.1
  have hkq : (kp = 25 ∨ kp = 27) ∧ (sq = 25 ∨ sq = 27) := by omega
  refine xm_monoH (w_La_node (g := g) (m_RS_node (h := x) (x := y) (y := u) hLt c0 cCT pT hx hy hu) c0 (fun z w1 h => by obtain ⟨hr, hr2, S', he, hz, hT', hC', hf⟩ := h; exact (hf 55 (by decide)).trans h55) (fun E w1 h => h.elim (fun q => Or.inl q.1) (fun q => Or.inr (q.elim (fun q => Or.inl q.1) (fun q => Or.inr q.1))))) (fun v n' ad' w' hp => ?_)
  obtain ⟨rfl, rfl, k, rfl, hk⟩ := hp
  refine ⟨rfl, rfl, k, rfl, ?_⟩
  rcases hk with ⟨rfl, z, w1, ⟨hr, hr2, S', he, hz, hT', hC', hf⟩, rfl⟩ | ⟨rfl, hd⟩ | ⟨rfl, hd⟩ | ⟨rfl, hd⟩
  · have hM2 := mt_fr (w' := va_up w1 55 (xLA (cA 2) 1 (vp_updL g 0 (zI z).toInt64))) hM (fun k a b => (va_ne (by omega)).trans (hf k (by omega)))
    refine ⟨⟨_, hM2.choose_spec.choose_spec.choose_spec.choose_spec.choose_spec.choose_spec.choose_spec.1⟩, xm_mono (m_Md_node (h := x) (x := y) (y := u) hM2 pT hx hy hu) (fun v n' ad' w' hp => ?_) (fun _ _ _ _ h => h)⟩
    obtain ⟨rfl, rfl, b, rfl, hb⟩ := hp
    refine ⟨rfl, rfl, b, rfl, ?_⟩
    rcases hb with ⟨h1, h9, S2, z2, he2, hv, hMT, hf3⟩ | ⟨h1, rfl, rfl⟩ | ⟨h1, h9, rfl, rfl⟩
    · obtain ⟨rfl, rfl⟩ := Prod.mk.inj (he2.trans he.symm)
      rw [if_neg (by omega)] at hv hMT
      exact je_of (S := S2) ⟨cj_ct hC (ct_fr hC' (fun k a b => (hf3 k (by omega)).trans (va_ne (by omega)))) (fun k a b => (hf3 k (by omega)).trans ((va_ne (by omega)).trans (hf k a))), hMT, msc_fr hMS (fun k a b => (hf3 k (by omega)).trans ((va_ne (by omega)).trans (hf k (by omega)))), mr_fr hR (fun k a b => (hf3 k (by omega)).trans ((va_ne (by omega)).trans (hf k (by omega)))), pj_xt hP (mkT_xt he) hT', (hf3 55 (by decide)).trans va_eq⟩ (by decide) (fun _ => by rw [upd0, hv])
    · exact absurd hr h1
    · exact absurd hr2 h9
  · obtain ⟨hr, rfl⟩ := hd.elim (fun q => q.2) (fun q => q.elim (fun q => absurd q.1 (by decide +kernel)) (fun q => absurd q.1 (by decide +kernel)))
    obtain ⟨jC, jM, jS, jR, -, j55⟩ := id hS
    have J2 := hS
    refine ⟨⟨_, js_29 hS⟩, xm_mono (m_Md_node (h := x) (x := y) (y := u) hM pT hx hy hu) (fun v n' ad' w' hp => ?_) (fun _ _ _ _ h => h)⟩
    obtain ⟨rfl, rfl, b, rfl, hb⟩ := hp
    refine ⟨rfl, rfl, b, rfl, ?_⟩
    rcases hb with ⟨h1, h9, S2, z2, he2, hv, hMT, hf3⟩ | ⟨h1, rfl, rfl⟩ | ⟨h1, h9, rfl, rfl⟩
    · exact absurd h1 hr
    · exact je_th J2 1 (by decide) (fun h => absurd h (by decide))
    · exact absurd h1 hr
  · obtain ⟨hr, hr2, rfl⟩ := hd.elim (fun q => absurd q.1 (by decide +kernel)) (fun q => q.elim (fun q => q.2) (fun q => absurd q.1 (by decide +kernel)))
    obtain ⟨jC, jM, jS, jR, -, j55⟩ := id hS
    have J2 := hS
    refine ⟨⟨_, js_29 hS⟩, xm_mono (m_Md_node (h := x) (x := y) (y := u) hM pT hx hy hu) (fun v n' ad' w' hp => ?_) (fun _ _ _ _ h => h)⟩
    obtain ⟨rfl, rfl, b, rfl, hb⟩ := hp
    refine ⟨rfl, rfl, b, rfl, ?_⟩
    rcases hb with ⟨h1, h9, S2, z2, he2, hv, hMT, hf3⟩ | ⟨h1, rfl, rfl⟩ | ⟨h1, h9, rfl, rfl⟩
    · exact absurd h9 hr2
    · exact absurd hr h1
    · exact je_th J2 2 (by decide) (fun h => absurd h (by decide))
  · obtain ⟨hr, hr2, S', z, he, hz, hC', hf⟩ := hd.elim (fun q => absurd q.1 (by decide +kernel)) (fun q => q.elim (fun q => absurd q.1 (by decide +kernel)) (fun q => q.2))
    have hM2 := mt_fr hM (fun k a b => hf k (by omega))
    refine ⟨⟨_, hM2.choose_spec.choose_spec.choose_spec.choose_spec.choose_spec.choose_spec.choose_spec.1⟩, xm_mono (m_Md_node (h := x) (x := y) (y := u) hM2 pT hx hy hu) (fun v n' ad' w' hp => ?_) (fun _ _ _ _ h => h)⟩
    obtain ⟨rfl, rfl, b, rfl, hb⟩ := hp
    refine ⟨rfl, rfl, b, rfl, ?_⟩
    rcases hb with ⟨h1, h9, S2, z2, he2, hv, hMT, hf3⟩ | ⟨h1, rfl, rfl⟩ | ⟨h1, h9, rfl, rfl⟩
    · obtain ⟨rfl, rfl⟩ := Prod.mk.inj (he2.trans he.symm)
      rw [if_pos hz] at hv hMT
      have e9 := mkT_neg he hz
      rw [e9] at hMT
      exact je_of (S := S) ⟨cj_ct hC (ct_fr hC' (fun k a b => hf3 k (by omega))) (fun k a b => (hf3 k (by omega)).trans (hf k a)), hMT, msc_fr hMS (fun k a b => (hf3 k (by omega)).trans (hf k (by omega))), mr_fr hR (fun k a b => (hf3 k (by omega)).trans (hf k (by omega))), hP, (hf3 55 (by decide)).trans ((hf 55 (by decide)).trans h55)⟩ (by decide) (fun h => absurd h (by decide))
    · exact absurd hr h1
    · exact absurd hr2 h9
set_option maxHeartbeats 4000000 in
set_option maxRecDepth 100000 in
theorem j_rule {L : Launch} {D : va_G} {cA : Nat → ClassId} {base : Nat} {ad : Nat → Nat} {w : Nat → va_E} (hLt : L.stackTraces = false) (hJ : JI ad cA w) {x : Int} (hx : -2147483648 ≤ x ∧ x < 2147483648) {y : Int} (hy : -2147483648 ≤ y ∧ y < 2147483648) {u : Int} (hu : -2147483648 ≤ u ∧ u < 2147483648) : XMH L D cA base y_La_rule c_La_rule 6 (some .int) [(0, 12, 15, 24), (0, 12, 19, 13)] (xrm 10 3 18) [.ref (ad 0), .int (zI x), .int (zI y), .int (zI u), .ref (ad 55)] 56 ad w (xRet 56 ad (fun k w1 => (∃ fs, w1 29 = xOb 5 fs) ∧ XM L D cA base y_Md_rule c_Md_rule 4 (some .int) (xrm 1 0 0) [.ref (ad 29), .int (zI x), .int (zI y), .int (zI u)] 56 ad w1 (xRet 56 ad (fun b w' => JE ad cA k b w')) xF)) := by
  obtain ⟨S, n, rl, rr, co, le9, ch, an, kp, sq, ls, se, sz, f, f42, nr, ns, th, fa, so, g, hS⟩ := hJ
  obtain ⟨hC, hM, hMS, hR, hP, h55⟩ := id hS
  obtain ⟨c0, ckp, cCT, cRS, c12, c13, c14, c15, c16, c17, c18, ck, ck1, sz0, f0, cs, cs1⟩ := id hC
  obtain ⟨pT, pn, pR, pl, pco, pch, ple, pan, psz, pf, pr⟩ := id hP
  obtain ⟨mk, fs9, sn9, wt, pl9, dp, ho, hc, nw, od, t1, t2, t3, t4, t5, t6, t7, t8, t9, t10, t11, tTC⟩ := id cCT
  have hN := pT.1
  have hkq : (kp = 25 ∨ kp = 27) ∧ (sq = 25 ∨ sq = 27) := by omega
  refine xm_monoH (w_La_rule (g := g) (m_RS_rule hLt c0 cCT pT pn c12 c13 c14 c15 c16 c17 hx hy hu) c0 (fun z w1 h => by obtain ⟨-, -, ⟨-, -, rfl⟩ | ⟨-, -, rfl⟩⟩ := h <;> exact h55) (fun E w1 h => h.elim (fun q => Or.inl q.1) (fun q => Or.inr q.1))) (fun v n' ad' w' hp => ?_)
  obtain ⟨rfl, rfl, k, rfl, hk⟩ := hp
  refine ⟨rfl, rfl, k, rfl, ?_⟩
  rcases hk with ⟨rfl, z, w1, ⟨hr, hr2, ⟨hn, hz, rfl⟩ | ⟨hn, hz, rfl⟩⟩, rfl⟩ | ⟨rfl, hd⟩ | ⟨rfl, hd⟩
  · have hM2 := mt_fr (w' := va_up (va_up (va_up (va_up (va_up (va_up (va_up w 12 (ruO ad ((n : Int) + 1))) 13 (xIA (cA 0) 16 (va_up rl n x))) 14 (xIA (cA 0) 16 (va_up rr n y))) 15 (xIA (cA 0) 16 (va_up co n u))) 16 (xIA (cA 1) 16 (va_up le9 n (xb (abv S x.toNat y.toNat))))) 17 (xIA (cA 1) 16 (va_up ch n 1))) 55 (xLA (cA 2) 1 (vp_updL g 0 (zI z).toInt64))) hM (fun k a b => (va_ne (by omega)).trans ((va_ne (by omega)).trans ((va_ne (by omega)).trans ((va_ne (by omega)).trans ((va_ne (by omega)).trans ((va_ne (by omega)).trans (va_ne (by omega))))))))
    have hR2 := mr_fr (w' := va_up (va_up (va_up (va_up (va_up (va_up (va_up w 12 (ruO ad ((n : Int) + 1))) 13 (xIA (cA 0) 16 (va_up rl n x))) 14 (xIA (cA 0) 16 (va_up rr n y))) 15 (xIA (cA 0) 16 (va_up co n u))) 16 (xIA (cA 1) 16 (va_up le9 n (xb (abv S x.toNat y.toNat))))) 17 (xIA (cA 1) 16 (va_up ch n 1))) 55 (xLA (cA 2) 1 (vp_updL g 0 (zI z).toInt64))) hR (fun k a b => (va_ne (by omega)).trans ((va_ne (by omega)).trans ((va_ne (by omega)).trans ((va_ne (by omega)).trans ((va_ne (by omega)).trans ((va_ne (by omega)).trans (va_ne (by omega))))))))
    refine ⟨⟨_, hM2.choose_spec.choose_spec.choose_spec.choose_spec.choose_spec.choose_spec.choose_spec.1⟩, xm_mono (m_Md_rule hM2 pT pn hR2.1 hR2.2.1 hR2.2.2.1 hR2.2.2.2.1 hx hy hu) (fun v n' ad' w' hp => ?_) (fun _ _ _ _ h => h)⟩
    obtain ⟨rfl, rfl, b, rfl, hb⟩ := hp
    refine ⟨rfl, rfl, b, rfl, ?_⟩
    rcases hb with ⟨h1, h2, ⟨h3, h4, rfl⟩ | ⟨h3, h4, rfl⟩⟩ | ⟨h1, rfl, rfl⟩ | ⟨h1, h2, rfl, rfl⟩
    · have hcast : ((n + 1 : Nat) : Int) = (n : Int) + 1 := by omega
      exact je_of (S := S) (n := n + 1) ⟨cj_ru hC (fun k a b => (va_ne (by omega)).trans ((va_ne (by omega)).trans ((va_ne (by omega)).trans ((va_ne (by omega)).trans ((va_ne (by omega)).trans ((va_ne (by omega)).trans ((va_ne (by omega)).trans ((va_ne (by omega)).trans ((va_ne (by omega)).trans ((va_ne (by omega)).trans ((va_ne (by omega)).trans (va_ne (by omega))))))))))))) (by rw [hcast]; rfl) rfl rfl rfl rfl rfl c18, mt_29 hM2 (by rw [hcast]; rfl) (fun k a b => (va_ne (by omega)).trans ((va_ne (by omega)).trans ((va_ne (by omega)).trans ((va_ne (by omega)).trans (va_ne (by omega)))))), msc_fr hMS (fun k a b => (va_ne (by omega)).trans ((va_ne (by omega)).trans ((va_ne (by omega)).trans ((va_ne (by omega)).trans ((va_ne (by omega)).trans ((va_ne (by omega)).trans ((va_ne (by omega)).trans ((va_ne (by omega)).trans ((va_ne (by omega)).trans ((va_ne (by omega)).trans ((va_ne (by omega)).trans (va_ne (by omega))))))))))))), ⟨rfl, rfl, rfl, rfl, hR.2.2.2.2.1, hR.2.2.2.2.2⟩, pj_add hP hn hr.1 hr.2 hr2.1 hr2.2.1 hr2.2.2, rfl⟩ (by decide) (fun _ => by rw [upd0, hz, h4])
    · exact absurd hn h3
    · exact absurd hr h1
    · exact absurd hr2 h2
  · have J2 := js_out hS (vp_updL g 0 (zI z).toInt64)
    obtain ⟨jC, jM, jS, jR, -, j55⟩ := id J2
    refine ⟨⟨_, js_29 J2⟩, xm_mono (m_Md_rule jM pT pn jR.1 jR.2.1 jR.2.2.1 jR.2.2.2.1 hx hy hu) (fun v n' ad' w' hp => ?_) (fun _ _ _ _ h => h)⟩
    obtain ⟨rfl, rfl, b, rfl, hb⟩ := hp
    refine ⟨rfl, rfl, b, rfl, ?_⟩
    rcases hb with ⟨h1, h2, ⟨h3, h4, rfl⟩ | ⟨h3, h4, rfl⟩⟩ | ⟨h1, rfl, rfl⟩ | ⟨h1, h2, rfl, rfl⟩
    · exact absurd h3 hn
    · exact je_th J2 0 (by decide) (fun _ => by rw [upd0, hz, h4])
    · exact absurd hr h1
    · exact absurd hr2 h2
  · obtain ⟨hr, rfl⟩ := hd.elim (fun q => q.2) (fun q => absurd q.1 (by decide +kernel))
    have J2 := hS
    refine ⟨⟨_, js_29 J2⟩, xm_mono (m_Md_rule hM pT pn hR.1 hR.2.1 hR.2.2.1 hR.2.2.2.1 hx hy hu) (fun v n' ad' w' hp => ?_) (fun _ _ _ _ h => h)⟩
    obtain ⟨rfl, rfl, b, rfl, hb⟩ := hp
    refine ⟨rfl, rfl, b, rfl, ?_⟩
    rcases hb with ⟨h1, h2, ⟨h3, h4, rfl⟩ | ⟨h3, h4, rfl⟩⟩ | ⟨h1, rfl, rfl⟩ | ⟨h1, h2, rfl, rfl⟩
    · exact absurd h1 hr
    · exact absurd h1 hr
    · exact je_th J2 1 (by decide) (fun h => absurd h (by decide))
    · exact absurd h1 hr
  · obtain ⟨hr, hr2, rfl⟩ := hd.elim (fun q => absurd q.1 (by decide +kernel)) (fun q => q.2)
    have J2 := hS
    refine ⟨⟨_, js_29 J2⟩, xm_mono (m_Md_rule hM pT pn hR.1 hR.2.1 hR.2.2.1 hR.2.2.2.1 hx hy hu) (fun v n' ad' w' hp => ?_) (fun _ _ _ _ h => h)⟩
    obtain ⟨rfl, rfl, b, rfl, hb⟩ := hp
    refine ⟨rfl, rfl, b, rfl, ?_⟩
    rcases hb with ⟨h1, h2, ⟨h3, h4, rfl⟩ | ⟨h3, h4, rfl⟩⟩ | ⟨h1, rfl, rfl⟩ | ⟨h1, h2, rfl, rfl⟩
    · exact absurd h2 hr2
    · exact absurd h2 hr2
    · exact absurd hr h1
    · exact je_th J2 2 (by decide) (fun h => absurd h (by decide))
