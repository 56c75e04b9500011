theorem xr_eql {G : xG} {n : Nat} {ad : Nat → Nat} {w : Nat → va_E} {a b pc : Nat} {lv : Nat → Option Value} {st : List Value} {x y : Int64} (h : x = y) (K : XW G n ad w a b pc lv (.long y :: st)) : XW G n ad w a b pc lv (.long x :: st) := by rw [h]; exact K
theorem lg_cmp_self (x : Int64) : lg_cmp x x = 0 := by unfold lg_cmp; simp
theorem lg_cmp_of9 {x y : Int64} (h : x = y) : lg_cmp x y = 0 := by rw [h]; exact lg_cmp_self y
section LC
variable {G : xG} {L : Launch} {D : va_G} {cA : Nat → ClassId} {base : Nat} {ad : Nat → Nat} {w : Nat → va_E} {a b : Nat} {lv : Nat → Option Value} {b9 L9 : Nat} {xs : Nat → Int32} {i : Nat}
set_option maxHeartbeats 4000000 in
set_option maxRecDepth 100000 in
theorem lc_leaf (C : XC G L D cA base c_La_law 7 R_La room_1) (hLt : L.stackTraces = false) (S9 : XSc G b9 L9 xs) (hL : L9 ≤ 2048) (hi : i + 4 ≤ L9) (hJ : JI ad cA w) (ha : a + 6 ≤ 601024) (hb : b + 36 ≤ 7293034) (l0 : lv 0 = some (.ref b9)) (l1 : lv 1 = some (.ref (ad 0))) (l2 : lv 2 = some (.ref (ad 29))) (l3 : lv 3 = some (.ref (ad 55))) (l4 : lv 4 = some (.int (zI (i : Int)))) (K : ∀ (lv2 : Nat → Option Value) (w2 : Nat → va_E), JI ad cA w2 → lv2 0 = some (.ref b9) → lv2 1 = some (.ref (ad 0)) → lv2 2 = some (.ref (ad 29)) → lv2 3 = some (.ref (ad 55)) → lv2 4 = some (.int (zI (i : Int))) → XW G 56 ad w2 (a + 6) (b + 36) 1294 lv2 []) : XW G 56 ad w a b 132 lv [] := by
  refine xr_aload_n C 1 d_La_law_132 rfl (l1) ?_
  refine xr_aload_n C 0 d_La_law_133 rfl (l0) ?_
  refine xr_iload C d_La_law_134 (l4) ?_
  refine xr_iconst C d_La_law_136 ?_
  refine xz_iadd C d_La_law_137 ?_
  refine xr_sld C S9 (by omega) (by omega) d_La_law_138 ?_
  refine xr_aload_n C 3 d_La_law_139 rfl (l3) ?_
  refine xr_callSH (As := [.ref (ad 0), .int (zI (xs ((i : Int) + 1).toNat).toInt), .ref (ad 55)]) (st := []) C (j_leaf hLt hJ (zI_rng _)) xmh_La_73 x2_La_leaf (by decide) ⟨show a + 1 ≤ 601024 by omega, show b + 6 ≤ 7293034 by omega⟩ (Nat.le_of_ble_eq_true rfl) rfl d_La_law_140 (fun v n9 ad9 w9 hp => ?_)
  obtain ⟨rfl, rfl, k, rfl, ⟨fs, h29⟩, hM⟩ := hp
  show XW G 56 ad w9 (a + 1) (b + 6) 143 _ [.int (zI k)]
  refine xr_istore C d_La_law_143 (by decide) ?_
  refine xr_aload_n C 2 d_La_law_145 rfl ((va_ne (by decide)).trans (l2)) ?_
  refine xr_aload_n C 0 d_La_law_146 rfl ((va_ne (by decide)).trans (l0)) ?_
  refine xr_iload C d_La_law_147 ((va_ne (by decide)).trans (l4)) ?_
  refine xr_iconst C d_La_law_149 ?_
  refine xz_iadd C d_La_law_150 ?_
  refine xr_sld C S9 (by omega) (by omega) d_La_law_151 ?_
  refine xr_callV (k9 := 29) (As := [.int (zI (xs ((i : Int) + 1).toNat).toInt)]) (st := []) C hM xm_La_78 x2_Md_leaf h29 (by decide) rfl (by decide) ⟨show a + 1 + 0 ≤ 601024 by omega, show b + 6 + 0 ≤ 7293034 by omega⟩ (Nat.le_of_ble_eq_true rfl) rfl d_La_law_152 (fun En n9 ad9 w9 hx9 => hx9.elim) (fun v n9 ad9 w3 hp => ?_)
  obtain ⟨rfl, rfl, bv, rfl, hJE⟩ := hp
  obtain ⟨hJ2, ⟨tr, ru, ro, sp, nr, ns, se, fa, so, h29⟩, hk, g, h55, hg⟩ := hJE
  show XW G 56 ad w3 (a + 1) (b + 6) 155 _ [.int (zI bv)]
  refine xr_istore C d_La_law_155 (by decide) ?_
  refine xr_aload_n C 2 d_La_law_157 rfl ((va_ne (by decide)).trans ((va_ne (by decide)).trans (l2))) ?_
  refine xr_callV (k9 := 29) (As := []) (st := []) C (m_Md_thrown h29) xm_La_79 x2_Md_thrown h29 (by decide) rfl (by decide) ⟨show a + 1 + 0 ≤ 601024 by omega, show b + 6 + 0 ≤ 7293034 by omega⟩ (Nat.le_of_ble_eq_true rfl) rfl d_La_law_158 (fun En n9 ad9 w9 hx9 => hx9.elim) (fun v n9 ad9 w4 hp => ?_)
  obtain ⟨rfl, rfl, rfl, rfl⟩ := hp
  show XW G 56 ad w3 (a + 1) (b + 6) 161 _ [.int (zI k)]
  refine xr_iload C d_La_law_161 ((va_ne (by decide)).trans va_eq) ?_
  refine xr_icmp_eq (tgt := 168) C d_La_law_163 (by decide) (fun _ => ?_) (fun q => absurd rfl q)
  refine xr_iload C d_La_law_168 ((va_ne (by decide)).trans va_eq) ?_
  refine xz_if_ne (tgt := 185) C d_La_law_170 (by decide) (by omega) (fun k0 => ?_) (fun k0 => ?_)
  · skip
    refine xr_goto (tgt := 1294) C d_La_law_185 (by decide) ?_
    exact xr_widen (by omega) (by omega) (K _ w3 hJ2 ((va_ne (by decide)).trans ((va_ne (by decide)).trans (l0))) ((va_ne (by decide)).trans ((va_ne (by decide)).trans (l1))) ((va_ne (by decide)).trans ((va_ne (by decide)).trans (l2))) ((va_ne (by decide)).trans ((va_ne (by decide)).trans (l3))) ((va_ne (by decide)).trans ((va_ne (by decide)).trans (l4))))
  · skip
    refine xr_aload_n C 3 d_La_law_173 rfl ((va_ne (by decide)).trans ((va_ne (by decide)).trans (l3))) ?_
    refine xr_iconst C d_La_law_174 ?_
    refine xr_lald (k := 55) C h55 (by decide) (by decide) (by decide) d_La_law_175 ?_
    refine xr_eql (y := (zI bv).toInt64) (hg k0) ?_
    refine xr_iload C d_La_law_176 va_eq ?_
    refine xr_i2l C d_La_law_178 ?_
    refine xr_lcmp C d_La_law_179 ?_
    refine xr_if_eq (tgt := 185) C d_La_law_180 (by decide) (fun _ => ?_) (fun q => absurd (lg_cmp_self _) q)
    refine xr_goto (tgt := 1294) C d_La_law_185 (by decide) ?_
    exact xr_widen (by omega) (by omega) (K _ w3 hJ2 ((va_ne (by decide)).trans ((va_ne (by decide)).trans (l0))) ((va_ne (by decide)).trans ((va_ne (by decide)).trans (l1))) ((va_ne (by decide)).trans ((va_ne (by decide)).trans (l2))) ((va_ne (by decide)).trans ((va_ne (by decide)).trans (l3))) ((va_ne (by decide)).trans ((va_ne (by decide)).trans (l4))))
set_option maxHeartbeats 4000000 in
set_option maxRecDepth 100000 in
theorem lc_hole (C : XC G L D cA base c_La_law 7 R_La room_1) (hLt : L.stackTraces = false) (S9 : XSc G b9 L9 xs) (hL : L9 ≤ 2048) (hi : i + 4 ≤ L9) (hJ : JI ad cA w) (ha : a + 6 ≤ 601024) (hb : b + 36 ≤ 7293034) (l0 : lv 0 = some (.ref b9)) (l1 : lv 1 = some (.ref (ad 0))) (l2 : lv 2 = some (.ref (ad 29))) (l3 : lv 3 = some (.ref (ad 55))) (l4 : lv 4 = some (.int (zI (i : Int)))) (K : ∀ (lv2 : Nat → Option Value) (w2 : Nat → va_E), JI ad cA w2 → lv2 0 = some (.ref b9) → lv2 1 = some (.ref (ad 0)) → lv2 2 = some (.ref (ad 29)) → lv2 3 = some (.ref (ad 55)) → lv2 4 = some (.int (zI (i : Int))) → XW G 56 ad w2 (a + 6) (b + 36) 1294 lv2 []) : XW G 56 ad w a b 188 lv [] := by
  refine xr_aload_n C 1 d_La_law_188 rfl (l1) ?_
  refine xr_aload_n C 0 d_La_law_189 rfl (l0) ?_
  refine xr_iload C d_La_law_190 (l4) ?_
  refine xr_iconst C d_La_law_192 ?_
  refine xz_iadd C d_La_law_193 ?_
  refine xr_sld C S9 (by omega) (by omega) d_La_law_194 ?_
  refine xr_aload_n C 3 d_La_law_195 rfl (l3) ?_
  refine xr_callSH (As := [.ref (ad 0), .int (zI (xs ((i : Int) + 1).toNat).toInt), .ref (ad 55)]) (st := []) C (j_hole hLt hJ (zI_rng _)) xmh_La_83 x2_La_hole (by decide) ⟨show a + 1 ≤ 601024 by omega, show b + 6 ≤ 7293034 by omega⟩ (Nat.le_of_ble_eq_true rfl) rfl d_La_law_196 (fun v n9 ad9 w9 hp => ?_)
  obtain ⟨rfl, rfl, k, rfl, ⟨fs, h29⟩, hM⟩ := hp
  show XW G 56 ad w9 (a + 1) (b + 6) 199 _ [.int (zI k)]
  refine xr_istore C d_La_law_199 (by decide) ?_
  refine xr_aload_n C 2 d_La_law_201 rfl ((va_ne (by decide)).trans (l2)) ?_
  refine xr_aload_n C 0 d_La_law_202 rfl ((va_ne (by decide)).trans (l0)) ?_
  refine xr_iload C d_La_law_203 ((va_ne (by decide)).trans (l4)) ?_
  refine xr_iconst C d_La_law_205 ?_
  refine xz_iadd C d_La_law_206 ?_
  refine xr_sld C S9 (by omega) (by omega) d_La_law_207 ?_
  refine xr_callV (k9 := 29) (As := [.int (zI (xs ((i : Int) + 1).toNat).toInt)]) (st := []) C hM xm_La_85 x2_Md_hole h29 (by decide) rfl (by decide) ⟨show a + 1 + 0 ≤ 601024 by omega, show b + 6 + 0 ≤ 7293034 by omega⟩ (Nat.le_of_ble_eq_true rfl) rfl d_La_law_208 (fun En n9 ad9 w9 hx9 => hx9.elim) (fun v n9 ad9 w3 hp => ?_)
  obtain ⟨rfl, rfl, bv, rfl, hJE⟩ := hp
  obtain ⟨hJ2, ⟨tr, ru, ro, sp, nr, ns, se, fa, so, h29⟩, hk, g, h55, hg⟩ := hJE
  show XW G 56 ad w3 (a + 1) (b + 6) 211 _ [.int (zI bv)]
  refine xr_istore C d_La_law_211 (by decide) ?_
  refine xr_aload_n C 2 d_La_law_213 rfl ((va_ne (by decide)).trans ((va_ne (by decide)).trans (l2))) ?_
  refine xr_callV (k9 := 29) (As := []) (st := []) C (m_Md_thrown h29) xm_La_79 x2_Md_thrown h29 (by decide) rfl (by decide) ⟨show a + 1 + 0 ≤ 601024 by omega, show b + 6 + 0 ≤ 7293034 by omega⟩ (Nat.le_of_ble_eq_true rfl) rfl d_La_law_214 (fun En n9 ad9 w9 hx9 => hx9.elim) (fun v n9 ad9 w4 hp => ?_)
  obtain ⟨rfl, rfl, rfl, rfl⟩ := hp
  show XW G 56 ad w3 (a + 1) (b + 6) 217 _ [.int (zI k)]
  refine xr_iload C d_La_law_217 ((va_ne (by decide)).trans va_eq) ?_
  refine xr_icmp_eq (tgt := 224) C d_La_law_219 (by decide) (fun _ => ?_) (fun q => absurd rfl q)
  refine xr_iload C d_La_law_224 ((va_ne (by decide)).trans va_eq) ?_
  refine xz_if_ne (tgt := 241) C d_La_law_226 (by decide) (by omega) (fun k0 => ?_) (fun k0 => ?_)
  · skip
    refine xr_goto (tgt := 1294) C d_La_law_241 (by decide) ?_
    exact xr_widen (by omega) (by omega) (K _ w3 hJ2 ((va_ne (by decide)).trans ((va_ne (by decide)).trans (l0))) ((va_ne (by decide)).trans ((va_ne (by decide)).trans (l1))) ((va_ne (by decide)).trans ((va_ne (by decide)).trans (l2))) ((va_ne (by decide)).trans ((va_ne (by decide)).trans (l3))) ((va_ne (by decide)).trans ((va_ne (by decide)).trans (l4))))
  · skip
    refine xr_aload_n C 3 d_La_law_229 rfl ((va_ne (by decide)).trans ((va_ne (by decide)).trans (l3))) ?_
    refine xr_iconst C d_La_law_230 ?_
    refine xr_lald (k := 55) C h55 (by decide) (by decide) (by decide) d_La_law_231 ?_
    refine xr_eql (y := (zI bv).toInt64) (hg k0) ?_
    refine xr_iload C d_La_law_232 va_eq ?_
    refine xr_i2l C d_La_law_234 ?_
    refine xr_lcmp C d_La_law_235 ?_
    refine xr_if_eq (tgt := 241) C d_La_law_236 (by decide) (fun _ => ?_) (fun q => absurd (lg_cmp_self _) q)
    refine xr_goto (tgt := 1294) C d_La_law_241 (by decide) ?_
    exact xr_widen (by omega) (by omega) (K _ w3 hJ2 ((va_ne (by decide)).trans ((va_ne (by decide)).trans (l0))) ((va_ne (by decide)).trans ((va_ne (by decide)).trans (l1))) ((va_ne (by decide)).trans ((va_ne (by decide)).trans (l2))) ((va_ne (by decide)).trans ((va_ne (by decide)).trans (l3))) ((va_ne (by decide)).trans ((va_ne (by decide)).trans (l4))))
set_option maxHeartbeats 4000000 in
set_option maxRecDepth 100000 in
theorem lc_node (C : XC G L D cA base c_La_law 7 R_La room_1) (hLt : L.stackTraces = false) (S9 : XSc G b9 L9 xs) (hL : L9 ≤ 2048) (hi : i + 4 ≤ L9) (hJ : JI ad cA w) (ha : a + 6 ≤ 601024) (hb : b + 36 ≤ 7293034) (l0 : lv 0 = some (.ref b9)) (l1 : lv 1 = some (.ref (ad 0))) (l2 : lv 2 = some (.ref (ad 29))) (l3 : lv 3 = some (.ref (ad 55))) (l4 : lv 4 = some (.int (zI (i : Int)))) (K : ∀ (lv2 : Nat → Option Value) (w2 : Nat → va_E), JI ad cA w2 → lv2 0 = some (.ref b9) → lv2 1 = some (.ref (ad 0)) → lv2 2 = some (.ref (ad 29)) → lv2 3 = some (.ref (ad 55)) → lv2 4 = some (.int (zI (i : Int))) → XW G 56 ad w2 (a + 6) (b + 36) 1294 lv2 []) : XW G 56 ad w a b 244 lv [] := by
  refine xr_aload_n C 1 d_La_law_244 rfl (l1) ?_
  refine xr_aload_n C 0 d_La_law_245 rfl (l0) ?_
  refine xr_iload C d_La_law_246 (l4) ?_
  refine xr_iconst C d_La_law_248 ?_
  refine xz_iadd C d_La_law_249 ?_
  refine xr_sld C S9 (by omega) (by omega) d_La_law_250 ?_
  refine xr_aload_n C 0 d_La_law_251 rfl (l0) ?_
  refine xr_iload C d_La_law_252 (l4) ?_
  refine xr_iconst C d_La_law_254 ?_
  refine xz_iadd C d_La_law_255 ?_
  refine xr_sld C S9 (by omega) (by omega) d_La_law_256 ?_
  refine xr_aload_n C 0 d_La_law_257 rfl (l0) ?_
  refine xr_iload C d_La_law_258 (l4) ?_
  refine xr_iconst C d_La_law_260 ?_
  refine xz_iadd C d_La_law_261 ?_
  refine xr_sld C S9 (by omega) (by omega) d_La_law_262 ?_
  refine xr_aload_n C 3 d_La_law_263 rfl (l3) ?_
  refine xr_callSH (As := [.ref (ad 0), .int (zI (xs ((i : Int) + 1).toNat).toInt), .int (zI (xs ((i : Int) + 2).toNat).toInt), .int (zI (xs ((i : Int) + 3).toNat).toInt), .ref (ad 55)]) (st := []) C (j_node hLt hJ (zI_rng _) (zI_rng _) (zI_rng _)) xmh_La_86 x2_La_node (by decide) ⟨show a + 3 ≤ 601024 by omega, show b + 18 ≤ 7293034 by omega⟩ (Nat.le_of_ble_eq_true rfl) rfl d_La_law_264 (fun v n9 ad9 w9 hp => ?_)
  obtain ⟨rfl, rfl, k, rfl, ⟨fs, h29⟩, hM⟩ := hp
  show XW G 56 ad w9 (a + 3) (b + 18) 267 _ [.int (zI k)]
  refine xr_istore C d_La_law_267 (by decide) ?_
  refine xr_aload_n C 2 d_La_law_269 rfl ((va_ne (by decide)).trans (l2)) ?_
  refine xr_aload_n C 0 d_La_law_270 rfl ((va_ne (by decide)).trans (l0)) ?_
  refine xr_iload C d_La_law_271 ((va_ne (by decide)).trans (l4)) ?_
  refine xr_iconst C d_La_law_273 ?_
  refine xz_iadd C d_La_law_274 ?_
  refine xr_sld C S9 (by omega) (by omega) d_La_law_275 ?_
  refine xr_aload_n C 0 d_La_law_276 rfl ((va_ne (by decide)).trans (l0)) ?_
  refine xr_iload C d_La_law_277 ((va_ne (by decide)).trans (l4)) ?_
  refine xr_iconst C d_La_law_279 ?_
  refine xz_iadd C d_La_law_280 ?_
  refine xr_sld C S9 (by omega) (by omega) d_La_law_281 ?_
  refine xr_aload_n C 0 d_La_law_282 rfl ((va_ne (by decide)).trans (l0)) ?_
  refine xr_iload C d_La_law_283 ((va_ne (by decide)).trans (l4)) ?_
  refine xr_iconst C d_La_law_285 ?_
  refine xz_iadd C d_La_law_286 ?_
  refine xr_sld C S9 (by omega) (by omega) d_La_law_287 ?_
  refine xr_callV (k9 := 29) (As := [.int (zI (xs ((i : Int) + 1).toNat).toInt), .int (zI (xs ((i : Int) + 2).toNat).toInt), .int (zI (xs ((i : Int) + 3).toNat).toInt)]) (st := []) C hM xm_La_89 x2_Md_node h29 (by decide) rfl (by decide) ⟨show a + 3 + 0 ≤ 601024 by omega, show b + 18 + 0 ≤ 7293034 by omega⟩ (Nat.le_of_ble_eq_true rfl) rfl d_La_law_288 (fun En n9 ad9 w9 hx9 => hx9.elim) (fun v n9 ad9 w3 hp => ?_)
  obtain ⟨rfl, rfl, bv, rfl, hJE⟩ := hp
  obtain ⟨hJ2, ⟨tr, ru, ro, sp, nr, ns, se, fa, so, h29⟩, hk, g, h55, hg⟩ := hJE
  show XW G 56 ad w3 (a + 3) (b + 18) 291 _ [.int (zI bv)]
  refine xr_istore C d_La_law_291 (by decide) ?_
  refine xr_aload_n C 2 d_La_law_293 rfl ((va_ne (by decide)).trans ((va_ne (by decide)).trans (l2))) ?_
  refine xr_callV (k9 := 29) (As := []) (st := []) C (m_Md_thrown h29) xm_La_79 x2_Md_thrown h29 (by decide) rfl (by decide) ⟨show a + 3 + 0 ≤ 601024 by omega, show b + 18 + 0 ≤ 7293034 by omega⟩ (Nat.le_of_ble_eq_true rfl) rfl d_La_law_294 (fun En n9 ad9 w9 hx9 => hx9.elim) (fun v n9 ad9 w4 hp => ?_)
  obtain ⟨rfl, rfl, rfl, rfl⟩ := hp
  show XW G 56 ad w3 (a + 3) (b + 18) 297 _ [.int (zI k)]
  refine xr_iload C d_La_law_297 ((va_ne (by decide)).trans va_eq) ?_
  refine xr_icmp_eq (tgt := 304) C d_La_law_299 (by decide) (fun _ => ?_) (fun q => absurd rfl q)
  refine xr_iload C d_La_law_304 ((va_ne (by decide)).trans va_eq) ?_
  refine xz_if_ne (tgt := 321) C d_La_law_306 (by decide) (by omega) (fun k0 => ?_) (fun k0 => ?_)
  · skip
    refine xr_goto (tgt := 1294) C d_La_law_321 (by decide) ?_
    exact xr_widen (by omega) (by omega) (K _ w3 hJ2 ((va_ne (by decide)).trans ((va_ne (by decide)).trans (l0))) ((va_ne (by decide)).trans ((va_ne (by decide)).trans (l1))) ((va_ne (by decide)).trans ((va_ne (by decide)).trans (l2))) ((va_ne (by decide)).trans ((va_ne (by decide)).trans (l3))) ((va_ne (by decide)).trans ((va_ne (by decide)).trans (l4))))
  · skip
    refine xr_aload_n C 3 d_La_law_309 rfl ((va_ne (by decide)).trans ((va_ne (by decide)).trans (l3))) ?_
    refine xr_iconst C d_La_law_310 ?_
    refine xr_lald (k := 55) C h55 (by decide) (by decide) (by decide) d_La_law_311 ?_
    refine xr_eql (y := (zI bv).toInt64) (hg k0) ?_
    refine xr_iload C d_La_law_312 va_eq ?_
    refine xr_i2l C d_La_law_314 ?_
    refine xr_lcmp C d_La_law_315 ?_
    refine xr_if_eq (tgt := 321) C d_La_law_316 (by decide) (fun _ => ?_) (fun q => absurd (lg_cmp_self _) q)
    refine xr_goto (tgt := 1294) C d_La_law_321 (by decide) ?_
    exact xr_widen (by omega) (by omega) (K _ w3 hJ2 ((va_ne (by decide)).trans ((va_ne (by decide)).trans (l0))) ((va_ne (by decide)).trans ((va_ne (by decide)).trans (l1))) ((va_ne (by decide)).trans ((va_ne (by decide)).trans (l2))) ((va_ne (by decide)).trans ((va_ne (by decide)).trans (l3))) ((va_ne (by decide)).trans ((va_ne (by decide)).trans (l4))))
set_option maxHeartbeats 4000000 in
set_option maxRecDepth 100000 in
theorem lc_rule (C : XC G L D cA base c_La_law 7 R_La room_1) (hLt : L.stackTraces = false) (S9 : XSc G b9 L9 xs) (hL : L9 ≤ 2048) (hi : i + 4 ≤ L9) (hJ : JI ad cA w) (ha : a + 6 ≤ 601024) (hb : b + 36 ≤ 7293034) (l0 : lv 0 = some (.ref b9)) (l1 : lv 1 = some (.ref (ad 0))) (l2 : lv 2 = some (.ref (ad 29))) (l3 : lv 3 = some (.ref (ad 55))) (l4 : lv 4 = some (.int (zI (i : Int)))) (K : ∀ (lv2 : Nat → Option Value) (w2 : Nat → va_E), JI ad cA w2 → lv2 0 = some (.ref b9) → lv2 1 = some (.ref (ad 0)) → lv2 2 = some (.ref (ad 29)) → lv2 3 = some (.ref (ad 55)) → lv2 4 = some (.int (zI (i : Int))) → XW G 56 ad w2 (a + 6) (b + 36) 1294 lv2 []) : XW G 56 ad w a b 324 lv [] := by
  refine xr_aload_n C 1 d_La_law_324 rfl (l1) ?_
  refine xr_aload_n C 0 d_La_law_325 rfl (l0) ?_
  refine xr_iload C d_La_law_326 (l4) ?_
  refine xr_iconst C d_La_law_328 ?_
  refine xz_iadd C d_La_law_329 ?_
  refine xr_sld C S9 (by omega) (by omega) d_La_law_330 ?_
  refine xr_aload_n C 0 d_La_law_331 rfl (l0) ?_
  refine xr_iload C d_La_law_332 (l4) ?_
  refine xr_iconst C d_La_law_334 ?_
  refine xz_iadd C d_La_law_335 ?_
  refine xr_sld C S9 (by omega) (by omega) d_La_law_336 ?_
  refine xr_aload_n C 0 d_La_law_337 rfl (l0) ?_
  refine xr_iload C d_La_law_338 (l4) ?_
  refine xr_iconst C d_La_law_340 ?_
  refine xz_iadd C d_La_law_341 ?_
  refine xr_sld C S9 (by omega) (by omega) d_La_law_342 ?_
  refine xr_aload_n C 3 d_La_law_343 rfl (l3) ?_
  refine xr_callSH (As := [.ref (ad 0), .int (zI (xs ((i : Int) + 1).toNat).toInt), .int (zI (xs ((i : Int) + 2).toNat).toInt), .int (zI (xs ((i : Int) + 3).toNat).toInt), .ref (ad 55)]) (st := []) C (j_rule hLt hJ (zI_rng _) (zI_rng _) (zI_rng _)) xmh_La_90 x2_La_rule (by decide) ⟨show a + 3 ≤ 601024 by omega, show b + 18 ≤ 7293034 by omega⟩ (Nat.le_of_ble_eq_true rfl) rfl d_La_law_344 (fun v n9 ad9 w9 hp => ?_)
  obtain ⟨rfl, rfl, k, rfl, ⟨fs, h29⟩, hM⟩ := hp
  show XW G 56 ad w9 (a + 3) (b + 18) 347 _ [.int (zI k)]
  refine xr_istore C d_La_law_347 (by decide) ?_
  refine xr_aload_n C 2 d_La_law_349 rfl ((va_ne (by decide)).trans (l2)) ?_
  refine xr_aload_n C 0 d_La_law_350 rfl ((va_ne (by decide)).trans (l0)) ?_
  refine xr_iload C d_La_law_351 ((va_ne (by decide)).trans (l4)) ?_
  refine xr_iconst C d_La_law_353 ?_
  refine xz_iadd C d_La_law_354 ?_
  refine xr_sld C S9 (by omega) (by omega) d_La_law_355 ?_
  refine xr_aload_n C 0 d_La_law_356 rfl ((va_ne (by decide)).trans (l0)) ?_
  refine xr_iload C d_La_law_357 ((va_ne (by decide)).trans (l4)) ?_
  refine xr_iconst C d_La_law_359 ?_
  refine xz_iadd C d_La_law_360 ?_
  refine xr_sld C S9 (by omega) (by omega) d_La_law_361 ?_
  refine xr_aload_n C 0 d_La_law_362 rfl ((va_ne (by decide)).trans (l0)) ?_
  refine xr_iload C d_La_law_363 ((va_ne (by decide)).trans (l4)) ?_
  refine xr_iconst C d_La_law_365 ?_
  refine xz_iadd C d_La_law_366 ?_
  refine xr_sld C S9 (by omega) (by omega) d_La_law_367 ?_
  refine xr_callV (k9 := 29) (As := [.int (zI (xs ((i : Int) + 1).toNat).toInt), .int (zI (xs ((i : Int) + 2).toNat).toInt), .int (zI (xs ((i : Int) + 3).toNat).toInt)]) (st := []) C hM xm_La_92 x2_Md_rule h29 (by decide) rfl (by decide) ⟨show a + 3 + 0 ≤ 601024 by omega, show b + 18 + 0 ≤ 7293034 by omega⟩ (Nat.le_of_ble_eq_true rfl) rfl d_La_law_368 (fun En n9 ad9 w9 hx9 => hx9.elim) (fun v n9 ad9 w3 hp => ?_)
  obtain ⟨rfl, rfl, bv, rfl, hJE⟩ := hp
  obtain ⟨hJ2, ⟨tr, ru, ro, sp, nr, ns, se, fa, so, h29⟩, hk, g, h55, hg⟩ := hJE
  show XW G 56 ad w3 (a + 3) (b + 18) 371 _ [.int (zI bv)]
  refine xr_istore C d_La_law_371 (by decide) ?_
  refine xr_aload_n C 2 d_La_law_373 rfl ((va_ne (by decide)).trans ((va_ne (by decide)).trans (l2))) ?_
  refine xr_callV (k9 := 29) (As := []) (st := []) C (m_Md_thrown h29) xm_La_79 x2_Md_thrown h29 (by decide) rfl (by decide) ⟨show a + 3 + 0 ≤ 601024 by omega, show b + 18 + 0 ≤ 7293034 by omega⟩ (Nat.le_of_ble_eq_true rfl) rfl d_La_law_374 (fun En n9 ad9 w9 hx9 => hx9.elim) (fun v n9 ad9 w4 hp => ?_)
  obtain ⟨rfl, rfl, rfl, rfl⟩ := hp
  show XW G 56 ad w3 (a + 3) (b + 18) 377 _ [.int (zI k)]
  refine xr_iload C d_La_law_377 ((va_ne (by decide)).trans va_eq) ?_
  refine xr_icmp_eq (tgt := 384) C d_La_law_379 (by decide) (fun _ => ?_) (fun q => absurd rfl q)
  refine xr_iload C d_La_law_384 ((va_ne (by decide)).trans va_eq) ?_
  refine xz_if_ne (tgt := 401) C d_La_law_386 (by decide) (by omega) (fun k0 => ?_) (fun k0 => ?_)
  · skip
    refine xr_goto (tgt := 1294) C d_La_law_401 (by decide) ?_
    exact xr_widen (by omega) (by omega) (K _ w3 hJ2 ((va_ne (by decide)).trans ((va_ne (by decide)).trans (l0))) ((va_ne (by decide)).trans ((va_ne (by decide)).trans (l1))) ((va_ne (by decide)).trans ((va_ne (by decide)).trans (l2))) ((va_ne (by decide)).trans ((va_ne (by decide)).trans (l3))) ((va_ne (by decide)).trans ((va_ne (by decide)).trans (l4))))
  · skip
    refine xr_aload_n C 3 d_La_law_389 rfl ((va_ne (by decide)).trans ((va_ne (by decide)).trans (l3))) ?_
    refine xr_iconst C d_La_law_390 ?_
    refine xr_lald (k := 55) C h55 (by decide) (by decide) (by decide) d_La_law_391 ?_
    refine xr_eql (y := (zI bv).toInt64) (hg k0) ?_
    refine xr_iload C d_La_law_392 va_eq ?_
    refine xr_i2l C d_La_law_394 ?_
    refine xr_lcmp C d_La_law_395 ?_
    refine xr_if_eq (tgt := 401) C d_La_law_396 (by decide) (fun _ => ?_) (fun q => absurd (lg_cmp_self _) q)
    refine xr_goto (tgt := 1294) C d_La_law_401 (by decide) ?_
    exact xr_widen (by omega) (by omega) (K _ w3 hJ2 ((va_ne (by decide)).trans ((va_ne (by decide)).trans (l0))) ((va_ne (by decide)).trans ((va_ne (by decide)).trans (l1))) ((va_ne (by decide)).trans ((va_ne (by decide)).trans (l2))) ((va_ne (by decide)).trans ((va_ne (by decide)).trans (l3))) ((va_ne (by decide)).trans ((va_ne (by decide)).trans (l4))))
set_option maxHeartbeats 4000000 in
set_option maxRecDepth 100000 in
theorem lc_holds (C : XC G L D cA base c_La_law 7 R_La room_1) (hLt : L.stackTraces = false) (S9 : XSc G b9 L9 xs) (hL : L9 ≤ 2048) (hi : i + 4 ≤ L9) (hJ : JI ad cA w) (ha : a + 6 ≤ 601024) (hb : b + 36 ≤ 7293034) (l0 : lv 0 = some (.ref b9)) (l1 : lv 1 = some (.ref (ad 0))) (l2 : lv 2 = some (.ref (ad 29))) (l3 : lv 3 = some (.ref (ad 55))) (l4 : lv 4 = some (.int (zI (i : Int)))) (K : ∀ (lv2 : Nat → Option Value) (w2 : Nat → va_E), JI ad cA w2 → lv2 0 = some (.ref b9) → lv2 1 = some (.ref (ad 0)) → lv2 2 = some (.ref (ad 29)) → lv2 3 = some (.ref (ad 55)) → lv2 4 = some (.int (zI (i : Int))) → XW G 56 ad w2 (a + 6) (b + 36) 1294 lv2 []) : XW G 56 ad w a b 404 lv [] := by
  refine xr_aload_n C 1 d_La_law_404 rfl (l1) ?_
  refine xr_aload_n C 0 d_La_law_405 rfl (l0) ?_
  refine xr_iload C d_La_law_406 (l4) ?_
  refine xr_iconst C d_La_law_408 ?_
  refine xz_iadd C d_La_law_409 ?_
  refine xr_sld C S9 (by omega) (by omega) d_La_law_410 ?_
  refine xr_aload_n C 0 d_La_law_411 rfl (l0) ?_
  refine xr_iload C d_La_law_412 (l4) ?_
  refine xr_iconst C d_La_law_414 ?_
  refine xz_iadd C d_La_law_415 ?_
  refine xr_sld C S9 (by omega) (by omega) d_La_law_416 ?_
  refine xr_aload_n C 3 d_La_law_417 rfl (l3) ?_
  refine xr_callSH (As := [.ref (ad 0), .int (zI (xs ((i : Int) + 1).toNat).toInt), .int (zI (xs ((i : Int) + 2).toNat).toInt), .ref (ad 55)]) (st := []) C (j_holds hLt hJ (zI_rng _) (zI_rng _)) xmh_La_93 x2_La_holds (by decide) ⟨show a + 1 ≤ 601024 by omega, show b + 6 ≤ 7293034 by omega⟩ (Nat.le_of_ble_eq_true rfl) rfl d_La_law_418 (fun v n9 ad9 w9 hp => ?_)
  obtain ⟨rfl, rfl, k, rfl, ⟨fs, h29⟩, hM⟩ := hp
  show XW G 56 ad w9 (a + 1) (b + 6) 421 _ [.int (zI k)]
  refine xr_istore C d_La_law_421 (by decide) ?_
  refine xr_aload_n C 2 d_La_law_423 rfl ((va_ne (by decide)).trans (l2)) ?_
  refine xr_aload_n C 0 d_La_law_424 rfl ((va_ne (by decide)).trans (l0)) ?_
  refine xr_iload C d_La_law_425 ((va_ne (by decide)).trans (l4)) ?_
  refine xr_iconst C d_La_law_427 ?_
  refine xz_iadd C d_La_law_428 ?_
  refine xr_sld C S9 (by omega) (by omega) d_La_law_429 ?_
  refine xr_aload_n C 0 d_La_law_430 rfl ((va_ne (by decide)).trans (l0)) ?_
  refine xr_iload C d_La_law_431 ((va_ne (by decide)).trans (l4)) ?_
  refine xr_iconst C d_La_law_433 ?_
  refine xz_iadd C d_La_law_434 ?_
  refine xr_sld C S9 (by omega) (by omega) d_La_law_435 ?_
  refine xr_callV (k9 := 29) (As := [.int (zI (xs ((i : Int) + 1).toNat).toInt), .int (zI (xs ((i : Int) + 2).toNat).toInt)]) (st := []) C hM xm_La_96 x2_Md_holds h29 (by decide) rfl (by decide) ⟨show a + 1 + 0 ≤ 601024 by omega, show b + 6 + 0 ≤ 7293034 by omega⟩ (Nat.le_of_ble_eq_true rfl) rfl d_La_law_436 (fun En n9 ad9 w9 hx9 => hx9.elim) (fun v n9 ad9 w3 hp => ?_)
  obtain ⟨rfl, rfl, bv, rfl, hb01, hJE⟩ := hp
  obtain ⟨hJ2, ⟨tr, ru, ro, sp, nr, ns, se, fa, so, h29⟩, hk, g, h55, hg⟩ := hJE
  show XW G 56 ad w3 (a + 1) (b + 6) 439 _ [.int (zI bv)]
  refine xr_istore C d_La_law_439 (by decide) ?_
  refine xr_aload_n C 2 d_La_law_441 rfl ((va_ne (by decide)).trans ((va_ne (by decide)).trans (l2))) ?_
  refine xr_callV (k9 := 29) (As := []) (st := []) C (m_Md_thrown h29) xm_La_79 x2_Md_thrown h29 (by decide) rfl (by decide) ⟨show a + 1 + 0 ≤ 601024 by omega, show b + 6 + 0 ≤ 7293034 by omega⟩ (Nat.le_of_ble_eq_true rfl) rfl d_La_law_442 (fun En n9 ad9 w9 hx9 => hx9.elim) (fun v n9 ad9 w4 hp => ?_)
  obtain ⟨rfl, rfl, rfl, rfl⟩ := hp
  show XW G 56 ad w3 (a + 1) (b + 6) 445 _ [.int (zI k)]
  refine xr_iload C d_La_law_445 ((va_ne (by decide)).trans va_eq) ?_
  refine xr_icmp_eq (tgt := 452) C d_La_law_447 (by decide) (fun _ => ?_) (fun q => absurd rfl q)
  refine xr_iload C d_La_law_452 ((va_ne (by decide)).trans va_eq) ?_
  refine xz_if_ne (tgt := 476) C d_La_law_454 (by decide) (by omega) (fun k0 => ?_) (fun k0 => ?_)
  · skip
    refine xr_goto (tgt := 1294) C d_La_law_476 (by decide) ?_
    exact xr_widen (by omega) (by omega) (K _ w3 hJ2 ((va_ne (by decide)).trans ((va_ne (by decide)).trans (l0))) ((va_ne (by decide)).trans ((va_ne (by decide)).trans (l1))) ((va_ne (by decide)).trans ((va_ne (by decide)).trans (l2))) ((va_ne (by decide)).trans ((va_ne (by decide)).trans (l3))) ((va_ne (by decide)).trans ((va_ne (by decide)).trans (l4))))
  · skip
    refine xr_aload_n C 3 d_La_law_457 rfl ((va_ne (by decide)).trans ((va_ne (by decide)).trans (l3))) ?_
    refine xr_iconst C d_La_law_458 ?_
    refine xr_lald (k := 55) C h55 (by decide) (by decide) (by decide) d_La_law_459 ?_
    refine xr_eql (y := (zI bv).toInt64) (hg k0) ?_
    refine xr_iload C d_La_law_460 va_eq ?_
    rcases hb01 with rfl | rfl
    · refine xz_if_eq (tgt := 469) C d_La_law_462 (by decide) (by decide) (fun _ => ?_) (fun q => absurd rfl q)
      refine xr_lconst C d_La_law_469 ?_
      refine xr_lcmp C d_La_law_470 ?_
      refine xr_if_eq (tgt := 476) C d_La_law_471 (by decide) (fun _ => ?_) (fun q => absurd (lg_cmp_of9 lz0.symm) q)
      refine xr_goto (tgt := 1294) C d_La_law_476 (by decide) ?_
      exact xr_widen (by omega) (by omega) (K _ w3 hJ2 ((va_ne (by decide)).trans ((va_ne (by decide)).trans (l0))) ((va_ne (by decide)).trans ((va_ne (by decide)).trans (l1))) ((va_ne (by decide)).trans ((va_ne (by decide)).trans (l2))) ((va_ne (by decide)).trans ((va_ne (by decide)).trans (l3))) ((va_ne (by decide)).trans ((va_ne (by decide)).trans (l4))))
    · refine xz_if_eq (tgt := 469) C d_La_law_462 (by decide) (by decide) (fun q => absurd q (by decide)) (fun _ => ?_)
      refine xr_lconst C d_La_law_465 ?_
      refine xr_goto (tgt := 470) C d_La_law_466 (by decide) ?_
      refine xr_lcmp C d_La_law_470 ?_
      refine xr_if_eq (tgt := 476) C d_La_law_471 (by decide) (fun _ => ?_) (fun q => absurd (lg_cmp_of9 lz1.symm) q)
      refine xr_goto (tgt := 1294) C d_La_law_476 (by decide) ?_
      exact xr_widen (by omega) (by omega) (K _ w3 hJ2 ((va_ne (by decide)).trans ((va_ne (by decide)).trans (l0))) ((va_ne (by decide)).trans ((va_ne (by decide)).trans (l1))) ((va_ne (by decide)).trans ((va_ne (by decide)).trans (l2))) ((va_ne (by decide)).trans ((va_ne (by decide)).trans (l3))) ((va_ne (by decide)).trans ((va_ne (by decide)).trans (l4))))
set_option maxHeartbeats 4000000 in
set_option maxRecDepth 100000 in
theorem lc_choose (C : XC G L D cA base c_La_law 7 R_La room_1) (hLt : L.stackTraces = false) (S9 : XSc G b9 L9 xs) (hL : L9 ≤ 2048) (hi : i + 4 ≤ L9) (hJ : JI ad cA w) (ha : a + 6 ≤ 601024) (hb : b + 36 ≤ 7293034) (l0 : lv 0 = some (.ref b9)) (l1 : lv 1 = some (.ref (ad 0))) (l2 : lv 2 = some (.ref (ad 29))) (l3 : lv 3 = some (.ref (ad 55))) (l4 : lv 4 = some (.int (zI (i : Int)))) (K : ∀ (lv2 : Nat → Option Value) (w2 : Nat → va_E), JI ad cA w2 → lv2 0 = some (.ref b9) → lv2 1 = some (.ref (ad 0)) → lv2 2 = some (.ref (ad 29)) → lv2 3 = some (.ref (ad 55)) → lv2 4 = some (.int (zI (i : Int))) → XW G 56 ad w2 (a + 6) (b + 36) 1294 lv2 []) : XW G 56 ad w a b 479 lv [] := by
  refine xr_aload_n C 1 d_La_law_479 rfl (l1) ?_
  refine xr_aload_n C 0 d_La_law_480 rfl (l0) ?_
  refine xr_iload C d_La_law_481 (l4) ?_
  refine xr_iconst C d_La_law_483 ?_
  refine xz_iadd C d_La_law_484 ?_
  refine xr_sld C S9 (by omega) (by omega) d_La_law_485 ?_
  refine xr_aload_n C 0 d_La_law_486 rfl (l0) ?_
  refine xr_iload C d_La_law_487 (l4) ?_
  refine xr_iconst C d_La_law_489 ?_
  refine xz_iadd C d_La_law_490 ?_
  refine xr_sld C S9 (by omega) (by omega) d_La_law_491 ?_
  have hJc := fun on => j_choose (D := D) (base := base) (on := on) hLt hJ (zI_rng (xs ((i : Int) + 1).toNat))
  refine xz_if_eq (tgt := 499) C d_La_law_492 (by decide) (zI_rng _) (fun c9 => ?_) (fun c9 => ?_)
  · skip
    refine xr_iconst C d_La_law_499 ?_
    refine xr_aload_n C 3 d_La_law_500 rfl (l3) ?_
    refine xr_callSH (As := [.ref (ad 0), .int (zI (xs ((i : Int) + 1).toNat).toInt), .int (zI (xb false)), .ref (ad 55)]) (st := []) C (hJc false) xmh_La_97 x2_La_choose (by decide) ⟨show a + 1 ≤ 601024 by omega, show b + 6 ≤ 7293034 by omega⟩ (Nat.le_of_ble_eq_true rfl) rfl d_La_law_501 (fun v n9 ad9 w9 hp => ?_)
    obtain ⟨rfl, rfl, k, rfl, ⟨fs, h29⟩, hM⟩ := hp
    show XW G 56 ad w9 (a + 1) (b + 6) 504 _ [.int (zI k)]
    refine xr_istore C d_La_law_504 (by decide) ?_
    refine xr_aload_n C 2 d_La_law_506 rfl ((va_ne (by decide)).trans (l2)) ?_
    refine xr_aload_n C 0 d_La_law_507 rfl ((va_ne (by decide)).trans (l0)) ?_
    refine xr_iload C d_La_law_508 ((va_ne (by decide)).trans (l4)) ?_
    refine xr_iconst C d_La_law_510 ?_
    refine xz_iadd C d_La_law_511 ?_
    refine xr_sld C S9 (by omega) (by omega) d_La_law_512 ?_
    refine xr_aload_n C 0 d_La_law_513 rfl ((va_ne (by decide)).trans (l0)) ?_
    refine xr_iload C d_La_law_514 ((va_ne (by decide)).trans (l4)) ?_
    refine xr_iconst C d_La_law_516 ?_
    refine xz_iadd C d_La_law_517 ?_
    refine xr_sld C S9 (by omega) (by omega) d_La_law_518 ?_
    refine xz_if_eq (tgt := 526) C d_La_law_519 (by decide) (zI_rng _) (fun _ => ?_) (fun q => absurd c9 q)
    refine xr_iconst C d_La_law_526 ?_
    refine xr_callV (k9 := 29) (As := [.int (zI (xs ((i : Int) + 1).toNat).toInt), .int (zI (xb false))]) (st := []) C hM xm_La_100 x2_Md_choose h29 (by decide) rfl (by decide) ⟨show a + 1 + 0 ≤ 601024 by omega, show b + 6 + 0 ≤ 7293034 by omega⟩ (Nat.le_of_ble_eq_true rfl) rfl d_La_law_527 (fun En n9 ad9 w9 hx9 => hx9.elim) (fun v n9 ad9 w3 hp => ?_)
    obtain ⟨rfl, rfl, bv, rfl, hb01, hJE⟩ := hp
    obtain ⟨hJ2, ⟨tr, ru, ro, sp, nr, ns, se, fa, so, h29⟩, hk, g, h55, hg⟩ := hJE
    show XW G 56 ad w3 (a + 1) (b + 6) 530 _ [.int (zI bv)]
    refine xr_istore C d_La_law_530 (by decide) ?_
    refine xr_aload_n C 2 d_La_law_532 rfl ((va_ne (by decide)).trans ((va_ne (by decide)).trans (l2))) ?_
    refine xr_callV (k9 := 29) (As := []) (st := []) C (m_Md_thrown h29) xm_La_79 x2_Md_thrown h29 (by decide) rfl (by decide) ⟨show a + 1 + 0 ≤ 601024 by omega, show b + 6 + 0 ≤ 7293034 by omega⟩ (Nat.le_of_ble_eq_true rfl) rfl d_La_law_533 (fun En n9 ad9 w9 hx9 => hx9.elim) (fun v n9 ad9 w4 hp => ?_)
    obtain ⟨rfl, rfl, rfl, rfl⟩ := hp
    show XW G 56 ad w3 (a + 1) (b + 6) 536 _ [.int (zI k)]
    refine xr_iload C d_La_law_536 ((va_ne (by decide)).trans va_eq) ?_
    refine xr_icmp_eq (tgt := 543) C d_La_law_538 (by decide) (fun _ => ?_) (fun q => absurd rfl q)
    refine xr_iload C d_La_law_543 ((va_ne (by decide)).trans va_eq) ?_
    refine xz_if_ne (tgt := 567) C d_La_law_545 (by decide) (by omega) (fun k0 => ?_) (fun k0 => ?_)
    · skip
      refine xr_goto (tgt := 1294) C d_La_law_567 (by decide) ?_
      exact xr_widen (by omega) (by omega) (K _ w3 hJ2 ((va_ne (by decide)).trans ((va_ne (by decide)).trans (l0))) ((va_ne (by decide)).trans ((va_ne (by decide)).trans (l1))) ((va_ne (by decide)).trans ((va_ne (by decide)).trans (l2))) ((va_ne (by decide)).trans ((va_ne (by decide)).trans (l3))) ((va_ne (by decide)).trans ((va_ne (by decide)).trans (l4))))
    · skip
      refine xr_aload_n C 3 d_La_law_548 rfl ((va_ne (by decide)).trans ((va_ne (by decide)).trans (l3))) ?_
      refine xr_iconst C d_La_law_549 ?_
      refine xr_lald (k := 55) C h55 (by decide) (by decide) (by decide) d_La_law_550 ?_
      refine xr_eql (y := (zI bv).toInt64) (hg k0) ?_
      refine xr_iload C d_La_law_551 va_eq ?_
      rcases hb01 with rfl | rfl
      · refine xz_if_eq (tgt := 560) C d_La_law_553 (by decide) (by decide) (fun _ => ?_) (fun q => absurd rfl q)
        refine xr_lconst C d_La_law_560 ?_
        refine xr_lcmp C d_La_law_561 ?_
        refine xr_if_eq (tgt := 567) C d_La_law_562 (by decide) (fun _ => ?_) (fun q => absurd (lg_cmp_of9 lz0.symm) q)
        refine xr_goto (tgt := 1294) C d_La_law_567 (by decide) ?_
        exact xr_widen (by omega) (by omega) (K _ w3 hJ2 ((va_ne (by decide)).trans ((va_ne (by decide)).trans (l0))) ((va_ne (by decide)).trans ((va_ne (by decide)).trans (l1))) ((va_ne (by decide)).trans ((va_ne (by decide)).trans (l2))) ((va_ne (by decide)).trans ((va_ne (by decide)).trans (l3))) ((va_ne (by decide)).trans ((va_ne (by decide)).trans (l4))))
      · refine xz_if_eq (tgt := 560) C d_La_law_553 (by decide) (by decide) (fun q => absurd q (by decide)) (fun _ => ?_)
        refine xr_lconst C d_La_law_556 ?_
        refine xr_goto (tgt := 561) C d_La_law_557 (by decide) ?_
        refine xr_lcmp C d_La_law_561 ?_
        refine xr_if_eq (tgt := 567) C d_La_law_562 (by decide) (fun _ => ?_) (fun q => absurd (lg_cmp_of9 lz1.symm) q)
        refine xr_goto (tgt := 1294) C d_La_law_567 (by decide) ?_
        exact xr_widen (by omega) (by omega) (K _ w3 hJ2 ((va_ne (by decide)).trans ((va_ne (by decide)).trans (l0))) ((va_ne (by decide)).trans ((va_ne (by decide)).trans (l1))) ((va_ne (by decide)).trans ((va_ne (by decide)).trans (l2))) ((va_ne (by decide)).trans ((va_ne (by decide)).trans (l3))) ((va_ne (by decide)).trans ((va_ne (by decide)).trans (l4))))
  · skip
    refine xr_iconst C d_La_law_495 ?_
    refine xr_goto (tgt := 500) C d_La_law_496 (by decide) ?_
    refine xr_aload_n C 3 d_La_law_500 rfl (l3) ?_
    refine xr_callSH (As := [.ref (ad 0), .int (zI (xs ((i : Int) + 1).toNat).toInt), .int (zI (xb true)), .ref (ad 55)]) (st := []) C (hJc true) xmh_La_97 x2_La_choose (by decide) ⟨show a + 1 ≤ 601024 by omega, show b + 6 ≤ 7293034 by omega⟩ (Nat.le_of_ble_eq_true rfl) rfl d_La_law_501 (fun v n9 ad9 w9 hp => ?_)
    obtain ⟨rfl, rfl, k, rfl, ⟨fs, h29⟩, hM⟩ := hp
    show XW G 56 ad w9 (a + 1) (b + 6) 504 _ [.int (zI k)]
    refine xr_istore C d_La_law_504 (by decide) ?_
    refine xr_aload_n C 2 d_La_law_506 rfl ((va_ne (by decide)).trans (l2)) ?_
    refine xr_aload_n C 0 d_La_law_507 rfl ((va_ne (by decide)).trans (l0)) ?_
    refine xr_iload C d_La_law_508 ((va_ne (by decide)).trans (l4)) ?_
    refine xr_iconst C d_La_law_510 ?_
    refine xz_iadd C d_La_law_511 ?_
    refine xr_sld C S9 (by omega) (by omega) d_La_law_512 ?_
    refine xr_aload_n C 0 d_La_law_513 rfl ((va_ne (by decide)).trans (l0)) ?_
    refine xr_iload C d_La_law_514 ((va_ne (by decide)).trans (l4)) ?_
    refine xr_iconst C d_La_law_516 ?_
    refine xz_iadd C d_La_law_517 ?_
    refine xr_sld C S9 (by omega) (by omega) d_La_law_518 ?_
    refine xz_if_eq (tgt := 526) C d_La_law_519 (by decide) (zI_rng _) (fun q => absurd q c9) (fun _ => ?_)
    refine xr_iconst C d_La_law_522 ?_
    refine xr_goto (tgt := 527) C d_La_law_523 (by decide) ?_
    refine xr_callV (k9 := 29) (As := [.int (zI (xs ((i : Int) + 1).toNat).toInt), .int (zI (xb true))]) (st := []) C hM xm_La_100 x2_Md_choose h29 (by decide) rfl (by decide) ⟨show a + 1 + 0 ≤ 601024 by omega, show b + 6 + 0 ≤ 7293034 by omega⟩ (Nat.le_of_ble_eq_true rfl) rfl d_La_law_527 (fun En n9 ad9 w9 hx9 => hx9.elim) (fun v n9 ad9 w3 hp => ?_)
    obtain ⟨rfl, rfl, bv, rfl, hb01, hJE⟩ := hp
    obtain ⟨hJ2, ⟨tr, ru, ro, sp, nr, ns, se, fa, so, h29⟩, hk, g, h55, hg⟩ := hJE
    show XW G 56 ad w3 (a + 1) (b + 6) 530 _ [.int (zI bv)]
    refine xr_istore C d_La_law_530 (by decide) ?_
    refine xr_aload_n C 2 d_La_law_532 rfl ((va_ne (by decide)).trans ((va_ne (by decide)).trans (l2))) ?_
    refine xr_callV (k9 := 29) (As := []) (st := []) C (m_Md_thrown h29) xm_La_79 x2_Md_thrown h29 (by decide) rfl (by decide) ⟨show a + 1 + 0 ≤ 601024 by omega, show b + 6 + 0 ≤ 7293034 by omega⟩ (Nat.le_of_ble_eq_true rfl) rfl d_La_law_533 (fun En n9 ad9 w9 hx9 => hx9.elim) (fun v n9 ad9 w4 hp => ?_)
    obtain ⟨rfl, rfl, rfl, rfl⟩ := hp
    show XW G 56 ad w3 (a + 1) (b + 6) 536 _ [.int (zI k)]
    refine xr_iload C d_La_law_536 ((va_ne (by decide)).trans va_eq) ?_
    refine xr_icmp_eq (tgt := 543) C d_La_law_538 (by decide) (fun _ => ?_) (fun q => absurd rfl q)
    refine xr_iload C d_La_law_543 ((va_ne (by decide)).trans va_eq) ?_
    refine xz_if_ne (tgt := 567) C d_La_law_545 (by decide) (by omega) (fun k0 => ?_) (fun k0 => ?_)
    · skip
      refine xr_goto (tgt := 1294) C d_La_law_567 (by decide) ?_
      exact xr_widen (by omega) (by omega) (K _ w3 hJ2 ((va_ne (by decide)).trans ((va_ne (by decide)).trans (l0))) ((va_ne (by decide)).trans ((va_ne (by decide)).trans (l1))) ((va_ne (by decide)).trans ((va_ne (by decide)).trans (l2))) ((va_ne (by decide)).trans ((va_ne (by decide)).trans (l3))) ((va_ne (by decide)).trans ((va_ne (by decide)).trans (l4))))
    · skip
      refine xr_aload_n C 3 d_La_law_548 rfl ((va_ne (by decide)).trans ((va_ne (by decide)).trans (l3))) ?_
      refine xr_iconst C d_La_law_549 ?_
      refine xr_lald (k := 55) C h55 (by decide) (by decide) (by decide) d_La_law_550 ?_
      refine xr_eql (y := (zI bv).toInt64) (hg k0) ?_
      refine xr_iload C d_La_law_551 va_eq ?_
      rcases hb01 with rfl | rfl
      · refine xz_if_eq (tgt := 560) C d_La_law_553 (by decide) (by decide) (fun _ => ?_) (fun q => absurd rfl q)
        refine xr_lconst C d_La_law_560 ?_
        refine xr_lcmp C d_La_law_561 ?_
        refine xr_if_eq (tgt := 567) C d_La_law_562 (by decide) (fun _ => ?_) (fun q => absurd (lg_cmp_of9 lz0.symm) q)
        refine xr_goto (tgt := 1294) C d_La_law_567 (by decide) ?_
        exact xr_widen (by omega) (by omega) (K _ w3 hJ2 ((va_ne (by decide)).trans ((va_ne (by decide)).trans (l0))) ((va_ne (by decide)).trans ((va_ne (by decide)).trans (l1))) ((va_ne (by decide)).trans ((va_ne (by decide)).trans (l2))) ((va_ne (by decide)).trans ((va_ne (by decide)).trans (l3))) ((va_ne (by decide)).trans ((va_ne (by decide)).trans (l4))))
      · refine xz_if_eq (tgt := 560) C d_La_law_553 (by decide) (by decide) (fun q => absurd q (by decide)) (fun _ => ?_)
        refine xr_lconst C d_La_law_556 ?_
        refine xr_goto (tgt := 561) C d_La_law_557 (by decide) ?_
        refine xr_lcmp C d_La_law_561 ?_
        refine xr_if_eq (tgt := 567) C d_La_law_562 (by decide) (fun _ => ?_) (fun q => absurd (lg_cmp_of9 lz1.symm) q)
        refine xr_goto (tgt := 1294) C d_La_law_567 (by decide) ?_
        exact xr_widen (by omega) (by omega) (K _ w3 hJ2 ((va_ne (by decide)).trans ((va_ne (by decide)).trans (l0))) ((va_ne (by decide)).trans ((va_ne (by decide)).trans (l1))) ((va_ne (by decide)).trans ((va_ne (by decide)).trans (l2))) ((va_ne (by decide)).trans ((va_ne (by decide)).trans (l3))) ((va_ne (by decide)).trans ((va_ne (by decide)).trans (l4))))
set_option maxHeartbeats 4000000 in
set_option maxRecDepth 100000 in
theorem lc_rewrite (C : XC G L D cA base c_La_law 7 R_La room_1) (hLt : L.stackTraces = false) (S9 : XSc G b9 L9 xs) (hL : L9 ≤ 2048) (hi : i + 4 ≤ L9) (hJ : JI ad cA w) (ha : a + 6 ≤ 601024) (hb : b + 36 ≤ 7293034) (l0 : lv 0 = some (.ref b9)) (l1 : lv 1 = some (.ref (ad 0))) (l2 : lv 2 = some (.ref (ad 29))) (l3 : lv 3 = some (.ref (ad 55))) (l4 : lv 4 = some (.int (zI (i : Int)))) (K : ∀ (lv2 : Nat → Option Value) (w2 : Nat → va_E), JI ad cA w2 → lv2 0 = some (.ref b9) → lv2 1 = some (.ref (ad 0)) → lv2 2 = some (.ref (ad 29)) → lv2 3 = some (.ref (ad 55)) → lv2 4 = some (.int (zI (i : Int))) → XW G 56 ad w2 (a + 6) (b + 36) 1294 lv2 []) : XW G 56 ad w a b 570 lv [] := by
  refine xr_aload_n C 1 d_La_law_570 rfl (l1) ?_
  refine xr_aload_n C 0 d_La_law_571 rfl (l0) ?_
  refine xr_iload C d_La_law_572 (l4) ?_
  refine xr_iconst C d_La_law_574 ?_
  refine xz_iadd C d_La_law_575 ?_
  refine xr_sld C S9 (by omega) (by omega) d_La_law_576 ?_
  refine xr_aload_n C 0 d_La_law_577 rfl (l0) ?_
  refine xr_iload C d_La_law_578 (l4) ?_
  refine xr_iconst C d_La_law_580 ?_
  refine xz_iadd C d_La_law_581 ?_
  refine xr_sld C S9 (by omega) (by omega) d_La_law_582 ?_
  refine xr_aload_n C 3 d_La_law_583 rfl (l3) ?_
  refine xr_callSH (As := [.ref (ad 0), .int (zI (xs ((i : Int) + 1).toNat).toInt), .int (zI (xs ((i : Int) + 2).toNat).toInt), .ref (ad 55)]) (st := []) C (j_rewrite hLt hJ (zI_rng _) (zI_rng _)) xmh_La_101 x2_La_rewrite (by decide) ⟨show a + 3 ≤ 601024 by omega, show b + 18 ≤ 7293034 by omega⟩ (Nat.le_of_ble_eq_true rfl) rfl d_La_law_584 (fun v n9 ad9 w9 hp => ?_)
  obtain ⟨rfl, rfl, k, rfl, ⟨fs, h29⟩, hM⟩ := hp
  show XW G 56 ad w9 (a + 3) (b + 18) 587 _ [.int (zI k)]
  refine xr_istore C d_La_law_587 (by decide) ?_
  refine xr_aload_n C 2 d_La_law_589 rfl ((va_ne (by decide)).trans (l2)) ?_
  refine xr_aload_n C 0 d_La_law_590 rfl ((va_ne (by decide)).trans (l0)) ?_
  refine xr_iload C d_La_law_591 ((va_ne (by decide)).trans (l4)) ?_
  refine xr_iconst C d_La_law_593 ?_
  refine xz_iadd C d_La_law_594 ?_
  refine xr_sld C S9 (by omega) (by omega) d_La_law_595 ?_
  refine xr_aload_n C 0 d_La_law_596 rfl ((va_ne (by decide)).trans (l0)) ?_
  refine xr_iload C d_La_law_597 ((va_ne (by decide)).trans (l4)) ?_
  refine xr_iconst C d_La_law_599 ?_
  refine xz_iadd C d_La_law_600 ?_
  refine xr_sld C S9 (by omega) (by omega) d_La_law_601 ?_
  refine xr_callV (k9 := 29) (As := [.int (zI (xs ((i : Int) + 1).toNat).toInt), .int (zI (xs ((i : Int) + 2).toNat).toInt)]) (st := []) C hM xm_La_103 x2_Md_rewrite h29 (by decide) rfl (by decide) ⟨show a + 3 + 0 ≤ 601024 by omega, show b + 18 + 0 ≤ 7293034 by omega⟩ (Nat.le_of_ble_eq_true rfl) rfl d_La_law_602 (fun En n9 ad9 w9 hx9 => hx9.elim) (fun v n9 ad9 w3 hp => ?_)
  obtain ⟨rfl, rfl, bv, rfl, hJE⟩ := hp
  obtain ⟨hJ2, ⟨tr, ru, ro, sp, nr, ns, se, fa, so, h29⟩, hk, g, h55, hg⟩ := hJE
  show XW G 56 ad w3 (a + 3) (b + 18) 605 _ [.int (zI bv)]
  refine xr_istore C d_La_law_605 (by decide) ?_
  refine xr_aload_n C 2 d_La_law_607 rfl ((va_ne (by decide)).trans ((va_ne (by decide)).trans (l2))) ?_
  refine xr_callV (k9 := 29) (As := []) (st := []) C (m_Md_thrown h29) xm_La_79 x2_Md_thrown h29 (by decide) rfl (by decide) ⟨show a + 3 + 0 ≤ 601024 by omega, show b + 18 + 0 ≤ 7293034 by omega⟩ (Nat.le_of_ble_eq_true rfl) rfl d_La_law_608 (fun En n9 ad9 w9 hx9 => hx9.elim) (fun v n9 ad9 w4 hp => ?_)
  obtain ⟨rfl, rfl, rfl, rfl⟩ := hp
  show XW G 56 ad w3 (a + 3) (b + 18) 611 _ [.int (zI k)]
  refine xr_iload C d_La_law_611 ((va_ne (by decide)).trans va_eq) ?_
  refine xr_icmp_eq (tgt := 618) C d_La_law_613 (by decide) (fun _ => ?_) (fun q => absurd rfl q)
  refine xr_iload C d_La_law_618 ((va_ne (by decide)).trans va_eq) ?_
  refine xz_if_ne (tgt := 635) C d_La_law_620 (by decide) (by omega) (fun k0 => ?_) (fun k0 => ?_)
  · skip
    refine xr_goto (tgt := 1294) C d_La_law_635 (by decide) ?_
    exact xr_widen (by omega) (by omega) (K _ w3 hJ2 ((va_ne (by decide)).trans ((va_ne (by decide)).trans (l0))) ((va_ne (by decide)).trans ((va_ne (by decide)).trans (l1))) ((va_ne (by decide)).trans ((va_ne (by decide)).trans (l2))) ((va_ne (by decide)).trans ((va_ne (by decide)).trans (l3))) ((va_ne (by decide)).trans ((va_ne (by decide)).trans (l4))))
  · skip
    refine xr_aload_n C 3 d_La_law_623 rfl ((va_ne (by decide)).trans ((va_ne (by decide)).trans (l3))) ?_
    refine xr_iconst C d_La_law_624 ?_
    refine xr_lald (k := 55) C h55 (by decide) (by decide) (by decide) d_La_law_625 ?_
    refine xr_eql (y := (zI bv).toInt64) (hg k0) ?_
    refine xr_iload C d_La_law_626 va_eq ?_
    refine xr_i2l C d_La_law_628 ?_
    refine xr_lcmp C d_La_law_629 ?_
    refine xr_if_eq (tgt := 635) C d_La_law_630 (by decide) (fun _ => ?_) (fun q => absurd (lg_cmp_self _) q)
    refine xr_goto (tgt := 1294) C d_La_law_635 (by decide) ?_
    exact xr_widen (by omega) (by omega) (K _ w3 hJ2 ((va_ne (by decide)).trans ((va_ne (by decide)).trans (l0))) ((va_ne (by decide)).trans ((va_ne (by decide)).trans (l1))) ((va_ne (by decide)).trans ((va_ne (by decide)).trans (l2))) ((va_ne (by decide)).trans ((va_ne (by decide)).trans (l3))) ((va_ne (by decide)).trans ((va_ne (by decide)).trans (l4))))
set_option maxHeartbeats 4000000 in
set_option maxRecDepth 100000 in
theorem lc_normal (C : XC G L D cA base c_La_law 7 R_La room_1) (hLt : L.stackTraces = false) (S9 : XSc G b9 L9 xs) (hL : L9 ≤ 2048) (hi : i + 4 ≤ L9) (hJ : JI ad cA w) (ha : a + 6 ≤ 601024) (hb : b + 36 ≤ 7293034) (l0 : lv 0 = some (.ref b9)) (l1 : lv 1 = some (.ref (ad 0))) (l2 : lv 2 = some (.ref (ad 29))) (l3 : lv 3 = some (.ref (ad 55))) (l4 : lv 4 = some (.int (zI (i : Int)))) (K : ∀ (lv2 : Nat → Option Value) (w2 : Nat → va_E), JI ad cA w2 → lv2 0 = some (.ref b9) → lv2 1 = some (.ref (ad 0)) → lv2 2 = some (.ref (ad 29)) → lv2 3 = some (.ref (ad 55)) → lv2 4 = some (.int (zI (i : Int))) → XW G 56 ad w2 (a + 6) (b + 36) 1294 lv2 []) : XW G 56 ad w a b 638 lv [] := by
  refine xr_aload_n C 1 d_La_law_638 rfl (l1) ?_
  refine xr_aload_n C 0 d_La_law_639 rfl (l0) ?_
  refine xr_iload C d_La_law_640 (l4) ?_
  refine xr_iconst C d_La_law_642 ?_
  refine xz_iadd C d_La_law_643 ?_
  refine xr_sld C S9 (by omega) (by omega) d_La_law_644 ?_
  refine xr_aload_n C 3 d_La_law_645 rfl (l3) ?_
  refine xr_callSH (As := [.ref (ad 0), .int (zI (xs ((i : Int) + 1).toNat).toInt), .ref (ad 55)]) (st := []) C (j_normal hLt hJ (zI_rng _)) xmh_La_104 x2_La_normal (by decide) ⟨show a + 3 ≤ 601024 by omega, show b + 18 ≤ 7293034 by omega⟩ (Nat.le_of_ble_eq_true rfl) rfl d_La_law_646 (fun v n9 ad9 w9 hp => ?_)
  obtain ⟨rfl, rfl, k, rfl, ⟨fs, h29⟩, hM⟩ := hp
  show XW G 56 ad w9 (a + 3) (b + 18) 649 _ [.int (zI k)]
  refine xr_istore C d_La_law_649 (by decide) ?_
  refine xr_aload_n C 2 d_La_law_651 rfl ((va_ne (by decide)).trans (l2)) ?_
  refine xr_aload_n C 0 d_La_law_652 rfl ((va_ne (by decide)).trans (l0)) ?_
  refine xr_iload C d_La_law_653 ((va_ne (by decide)).trans (l4)) ?_
  refine xr_iconst C d_La_law_655 ?_
  refine xz_iadd C d_La_law_656 ?_
  refine xr_sld C S9 (by omega) (by omega) d_La_law_657 ?_
  refine xr_callV (k9 := 29) (As := [.int (zI (xs ((i : Int) + 1).toNat).toInt)]) (st := []) C hM xm_La_106 x2_Md_normal h29 (by decide) rfl (by decide) ⟨show a + 3 + 0 ≤ 601024 by omega, show b + 18 + 0 ≤ 7293034 by omega⟩ (Nat.le_of_ble_eq_true rfl) rfl d_La_law_658 (fun En n9 ad9 w9 hx9 => hx9.elim) (fun v n9 ad9 w3 hp => ?_)
  obtain ⟨rfl, rfl, bv, rfl, hJE⟩ := hp
  obtain ⟨hJ2, ⟨tr, ru, ro, sp, nr, ns, se, fa, so, h29⟩, hk, g, h55, hg⟩ := hJE
  show XW G 56 ad w3 (a + 3) (b + 18) 661 _ [.int (zI bv)]
  refine xr_istore C d_La_law_661 (by decide) ?_
  refine xr_aload_n C 2 d_La_law_663 rfl ((va_ne (by decide)).trans ((va_ne (by decide)).trans (l2))) ?_
  refine xr_callV (k9 := 29) (As := []) (st := []) C (m_Md_thrown h29) xm_La_79 x2_Md_thrown h29 (by decide) rfl (by decide) ⟨show a + 3 + 0 ≤ 601024 by omega, show b + 18 + 0 ≤ 7293034 by omega⟩ (Nat.le_of_ble_eq_true rfl) rfl d_La_law_664 (fun En n9 ad9 w9 hx9 => hx9.elim) (fun v n9 ad9 w4 hp => ?_)
  obtain ⟨rfl, rfl, rfl, rfl⟩ := hp
  show XW G 56 ad w3 (a + 3) (b + 18) 667 _ [.int (zI k)]
  refine xr_iload C d_La_law_667 ((va_ne (by decide)).trans va_eq) ?_
  refine xr_icmp_eq (tgt := 674) C d_La_law_669 (by decide) (fun _ => ?_) (fun q => absurd rfl q)
  refine xr_iload C d_La_law_674 ((va_ne (by decide)).trans va_eq) ?_
  refine xz_if_ne (tgt := 691) C d_La_law_676 (by decide) (by omega) (fun k0 => ?_) (fun k0 => ?_)
  · skip
    refine xr_goto (tgt := 1294) C d_La_law_691 (by decide) ?_
    exact xr_widen (by omega) (by omega) (K _ w3 hJ2 ((va_ne (by decide)).trans ((va_ne (by decide)).trans (l0))) ((va_ne (by decide)).trans ((va_ne (by decide)).trans (l1))) ((va_ne (by decide)).trans ((va_ne (by decide)).trans (l2))) ((va_ne (by decide)).trans ((va_ne (by decide)).trans (l3))) ((va_ne (by decide)).trans ((va_ne (by decide)).trans (l4))))
  · skip
    refine xr_aload_n C 3 d_La_law_679 rfl ((va_ne (by decide)).trans ((va_ne (by decide)).trans (l3))) ?_
    refine xr_iconst C d_La_law_680 ?_
    refine xr_lald (k := 55) C h55 (by decide) (by decide) (by decide) d_La_law_681 ?_
    refine xr_eql (y := (zI bv).toInt64) (hg k0) ?_
    refine xr_iload C d_La_law_682 va_eq ?_
    refine xr_i2l C d_La_law_684 ?_
    refine xr_lcmp C d_La_law_685 ?_
    refine xr_if_eq (tgt := 691) C d_La_law_686 (by decide) (fun _ => ?_) (fun q => absurd (lg_cmp_self _) q)
    refine xr_goto (tgt := 1294) C d_La_law_691 (by decide) ?_
    exact xr_widen (by omega) (by omega) (K _ w3 hJ2 ((va_ne (by decide)).trans ((va_ne (by decide)).trans (l0))) ((va_ne (by decide)).trans ((va_ne (by decide)).trans (l1))) ((va_ne (by decide)).trans ((va_ne (by decide)).trans (l2))) ((va_ne (by decide)).trans ((va_ne (by decide)).trans (l3))) ((va_ne (by decide)).trans ((va_ne (by decide)).trans (l4))))
set_option maxHeartbeats 4000000 in
set_option maxRecDepth 100000 in
theorem lc_joins (C : XC G L D cA base c_La_law 7 R_La room_1) (hLt : L.stackTraces = false) (S9 : XSc G b9 L9 xs) (hL : L9 ≤ 2048) (hi : i + 4 ≤ L9) (hJ : JI ad cA w) (ha : a + 6 ≤ 601024) (hb : b + 36 ≤ 7293034) (l0 : lv 0 = some (.ref b9)) (l1 : lv 1 = some (.ref (ad 0))) (l2 : lv 2 = some (.ref (ad 29))) (l3 : lv 3 = some (.ref (ad 55))) (l4 : lv 4 = some (.int (zI (i : Int)))) (K : ∀ (lv2 : Nat → Option Value) (w2 : Nat → va_E), JI ad cA w2 → lv2 0 = some (.ref b9) → lv2 1 = some (.ref (ad 0)) → lv2 2 = some (.ref (ad 29)) → lv2 3 = some (.ref (ad 55)) → lv2 4 = some (.int (zI (i : Int))) → XW G 56 ad w2 (a + 6) (b + 36) 1294 lv2 []) : XW G 56 ad w a b 694 lv [] := by
  refine xr_aload_n C 1 d_La_law_694 rfl (l1) ?_
  refine xr_aload_n C 0 d_La_law_695 rfl (l0) ?_
  refine xr_iload C d_La_law_696 (l4) ?_
  refine xr_iconst C d_La_law_698 ?_
  refine xz_iadd C d_La_law_699 ?_
  refine xr_sld C S9 (by omega) (by omega) d_La_law_700 ?_
  refine xr_aload_n C 0 d_La_law_701 rfl (l0) ?_
  refine xr_iload C d_La_law_702 (l4) ?_
  refine xr_iconst C d_La_law_704 ?_
  refine xz_iadd C d_La_law_705 ?_
  refine xr_sld C S9 (by omega) (by omega) d_La_law_706 ?_
  refine xr_aload_n C 3 d_La_law_707 rfl (l3) ?_
  refine xr_callSH (As := [.ref (ad 0), .int (zI (xs ((i : Int) + 1).toNat).toInt), .int (zI (xs ((i : Int) + 2).toNat).toInt), .ref (ad 55)]) (st := []) C (j_joins hLt hJ (zI_rng _) (zI_rng _)) xmh_La_107 x2_La_joins (by decide) ⟨show a + 6 ≤ 601024 by omega, show b + 36 ≤ 7293034 by omega⟩ (Nat.le_of_ble_eq_true rfl) rfl d_La_law_708 (fun v n9 ad9 w9 hp => ?_)
  obtain ⟨rfl, rfl, k, rfl, ⟨fs, h29⟩, hM⟩ := hp
  show XW G 56 ad w9 (a + 6) (b + 36) 711 _ [.int (zI k)]
  refine xr_istore C d_La_law_711 (by decide) ?_
  refine xr_aload_n C 2 d_La_law_713 rfl ((va_ne (by decide)).trans (l2)) ?_
  refine xr_aload_n C 0 d_La_law_714 rfl ((va_ne (by decide)).trans (l0)) ?_
  refine xr_iload C d_La_law_715 ((va_ne (by decide)).trans (l4)) ?_
  refine xr_iconst C d_La_law_717 ?_
  refine xz_iadd C d_La_law_718 ?_
  refine xr_sld C S9 (by omega) (by omega) d_La_law_719 ?_
  refine xr_aload_n C 0 d_La_law_720 rfl ((va_ne (by decide)).trans (l0)) ?_
  refine xr_iload C d_La_law_721 ((va_ne (by decide)).trans (l4)) ?_
  refine xr_iconst C d_La_law_723 ?_
  refine xz_iadd C d_La_law_724 ?_
  refine xr_sld C S9 (by omega) (by omega) d_La_law_725 ?_
  refine xr_callV (k9 := 29) (As := [.int (zI (xs ((i : Int) + 1).toNat).toInt), .int (zI (xs ((i : Int) + 2).toNat).toInt)]) (st := []) C hM xm_La_109 x2_Md_joins h29 (by decide) rfl (by decide) ⟨show a + 6 + 0 ≤ 601024 by omega, show b + 36 + 0 ≤ 7293034 by omega⟩ (Nat.le_of_ble_eq_true rfl) rfl d_La_law_726 (fun En n9 ad9 w9 hx9 => hx9.elim) (fun v n9 ad9 w3 hp => ?_)
  obtain ⟨rfl, rfl, bv, rfl, hb01, hJE⟩ := hp
  obtain ⟨hJ2, ⟨tr, ru, ro, sp, nr, ns, se, fa, so, h29⟩, hk, g, h55, hg⟩ := hJE
  show XW G 56 ad w3 (a + 6) (b + 36) 729 _ [.int (zI bv)]
  refine xr_istore C d_La_law_729 (by decide) ?_
  refine xr_aload_n C 2 d_La_law_731 rfl ((va_ne (by decide)).trans ((va_ne (by decide)).trans (l2))) ?_
  refine xr_callV (k9 := 29) (As := []) (st := []) C (m_Md_thrown h29) xm_La_79 x2_Md_thrown h29 (by decide) rfl (by decide) ⟨show a + 6 + 0 ≤ 601024 by omega, show b + 36 + 0 ≤ 7293034 by omega⟩ (Nat.le_of_ble_eq_true rfl) rfl d_La_law_732 (fun En n9 ad9 w9 hx9 => hx9.elim) (fun v n9 ad9 w4 hp => ?_)
  obtain ⟨rfl, rfl, rfl, rfl⟩ := hp
  show XW G 56 ad w3 (a + 6) (b + 36) 735 _ [.int (zI k)]
  refine xr_iload C d_La_law_735 ((va_ne (by decide)).trans va_eq) ?_
  refine xr_icmp_eq (tgt := 742) C d_La_law_737 (by decide) (fun _ => ?_) (fun q => absurd rfl q)
  refine xr_iload C d_La_law_742 ((va_ne (by decide)).trans va_eq) ?_
  refine xz_if_ne (tgt := 766) C d_La_law_744 (by decide) (by omega) (fun k0 => ?_) (fun k0 => ?_)
  · skip
    refine xr_goto (tgt := 1294) C d_La_law_766 (by decide) ?_
    exact xr_widen (by omega) (by omega) (K _ w3 hJ2 ((va_ne (by decide)).trans ((va_ne (by decide)).trans (l0))) ((va_ne (by decide)).trans ((va_ne (by decide)).trans (l1))) ((va_ne (by decide)).trans ((va_ne (by decide)).trans (l2))) ((va_ne (by decide)).trans ((va_ne (by decide)).trans (l3))) ((va_ne (by decide)).trans ((va_ne (by decide)).trans (l4))))
  · skip
    refine xr_aload_n C 3 d_La_law_747 rfl ((va_ne (by decide)).trans ((va_ne (by decide)).trans (l3))) ?_
    refine xr_iconst C d_La_law_748 ?_
    refine xr_lald (k := 55) C h55 (by decide) (by decide) (by decide) d_La_law_749 ?_
    refine xr_eql (y := (zI bv).toInt64) (hg k0) ?_
    refine xr_iload C d_La_law_750 va_eq ?_
    rcases hb01 with rfl | rfl
    · refine xz_if_eq (tgt := 759) C d_La_law_752 (by decide) (by decide) (fun _ => ?_) (fun q => absurd rfl q)
      refine xr_lconst C d_La_law_759 ?_
      refine xr_lcmp C d_La_law_760 ?_
      refine xr_if_eq (tgt := 766) C d_La_law_761 (by decide) (fun _ => ?_) (fun q => absurd (lg_cmp_of9 lz0.symm) q)
      refine xr_goto (tgt := 1294) C d_La_law_766 (by decide) ?_
      exact xr_widen (by omega) (by omega) (K _ w3 hJ2 ((va_ne (by decide)).trans ((va_ne (by decide)).trans (l0))) ((va_ne (by decide)).trans ((va_ne (by decide)).trans (l1))) ((va_ne (by decide)).trans ((va_ne (by decide)).trans (l2))) ((va_ne (by decide)).trans ((va_ne (by decide)).trans (l3))) ((va_ne (by decide)).trans ((va_ne (by decide)).trans (l4))))
    · refine xz_if_eq (tgt := 759) C d_La_law_752 (by decide) (by decide) (fun q => absurd q (by decide)) (fun _ => ?_)
      refine xr_lconst C d_La_law_755 ?_
      refine xr_goto (tgt := 760) C d_La_law_756 (by decide) ?_
      refine xr_lcmp C d_La_law_760 ?_
      refine xr_if_eq (tgt := 766) C d_La_law_761 (by decide) (fun _ => ?_) (fun q => absurd (lg_cmp_of9 lz1.symm) q)
      refine xr_goto (tgt := 1294) C d_La_law_766 (by decide) ?_
      exact xr_widen (by omega) (by omega) (K _ w3 hJ2 ((va_ne (by decide)).trans ((va_ne (by decide)).trans (l0))) ((va_ne (by decide)).trans ((va_ne (by decide)).trans (l1))) ((va_ne (by decide)).trans ((va_ne (by decide)).trans (l2))) ((va_ne (by decide)).trans ((va_ne (by decide)).trans (l3))) ((va_ne (by decide)).trans ((va_ne (by decide)).trans (l4))))
set_option maxHeartbeats 4000000 in
set_option maxRecDepth 100000 in
theorem lc_spent (C : XC G L D cA base c_La_law 7 R_La room_1) (hLt : L.stackTraces = false) (S9 : XSc G b9 L9 xs) (hL : L9 ≤ 2048) (hi : i + 4 ≤ L9) (hJ : JI ad cA w) (ha : a + 6 ≤ 601024) (hb : b + 36 ≤ 7293034) (l0 : lv 0 = some (.ref b9)) (l1 : lv 1 = some (.ref (ad 0))) (l2 : lv 2 = some (.ref (ad 29))) (l3 : lv 3 = some (.ref (ad 55))) (l4 : lv 4 = some (.int (zI (i : Int)))) (K : ∀ (lv2 : Nat → Option Value) (w2 : Nat → va_E), JI ad cA w2 → lv2 0 = some (.ref b9) → lv2 1 = some (.ref (ad 0)) → lv2 2 = some (.ref (ad 29)) → lv2 3 = some (.ref (ad 55)) → lv2 4 = some (.int (zI (i : Int))) → XW G 56 ad w2 (a + 6) (b + 36) 1294 lv2 []) : XW G 56 ad w a b 769 lv [] := by
  obtain ⟨⟨fs0, h0⟩, ⟨fs29, h29⟩, cv, hC1, hM1⟩ := j_spent (L := L) (D := D) (base := base) hJ 
  refine xr_aload_n C 1 d_La_law_769 rfl (l1) ?_
  refine xr_callV (k9 := 0) (As := []) (st := []) C hC1 xm_La_110 x2_RS_spent h0 (by decide) rfl (by decide) ⟨show a + 0 ≤ 601024 by omega, show b + 0 ≤ 7293034 by omega⟩ (Nat.le_of_ble_eq_true rfl) rfl d_La_law_770 (fun En n9 ad9 w9 hx9 => hx9.elim) (fun v n9 ad9 w4 hp => ?_)
  obtain ⟨rfl, rfl, rfl, rfl⟩ := hp
  show XW G 56 ad w a b 773 _ [.int cv]
  refine xr_aload_n C 2 d_La_law_773 rfl (l2) ?_
  refine xr_callV (k9 := 29) (As := []) (st := [.int cv]) C hM1 xm_La_114 x2_Md_spent h29 (by decide) rfl (by decide) ⟨show a + 0 ≤ 601024 by omega, show b + 0 ≤ 7293034 by omega⟩ (Nat.le_of_ble_eq_true rfl) rfl d_La_law_774 (fun En n9 ad9 w9 hx9 => hx9.elim) (fun v n9 ad9 w4 hp => ?_)
  obtain ⟨rfl, rfl, rfl, hJ2⟩ := hp
  show XW G 56 ad w4 a b 777 _ [.int cv, .int cv]
  refine xr_icmp_eq (tgt := 1294) C d_La_law_777 (by decide) (fun _ => ?_) (fun q => absurd rfl q)
  exact xr_widen (by omega) (by omega) (K _ w4 hJ2 l0 l1 l2 l3 l4)
set_option maxHeartbeats 4000000 in
set_option maxRecDepth 100000 in
theorem lc_row (C : XC G L D cA base c_La_law 7 R_La room_1) (hLt : L.stackTraces = false) (S9 : XSc G b9 L9 xs) (hL : L9 ≤ 2048) (hi : i + 4 ≤ L9) (hJ : JI ad cA w) (ha : a + 6 ≤ 601024) (hb : b + 36 ≤ 7293034) (l0 : lv 0 = some (.ref b9)) (l1 : lv 1 = some (.ref (ad 0))) (l2 : lv 2 = some (.ref (ad 29))) (l3 : lv 3 = some (.ref (ad 55))) (l4 : lv 4 = some (.int (zI (i : Int)))) (K : ∀ (lv2 : Nat → Option Value) (w2 : Nat → va_E), JI ad cA w2 → lv2 0 = some (.ref b9) → lv2 1 = some (.ref (ad 0)) → lv2 2 = some (.ref (ad 29)) → lv2 3 = some (.ref (ad 55)) → lv2 4 = some (.int (zI (i : Int))) → XW G 56 ad w2 (a + 6) (b + 36) 1294 lv2 []) : XW G 56 ad w a b 782 lv [] := by
  refine xr_aload_n C 1 d_La_law_782 rfl (l1) ?_
  refine xr_aload_n C 0 d_La_law_783 rfl (l0) ?_
  refine xr_iload C d_La_law_784 (l4) ?_
  refine xr_iconst C d_La_law_786 ?_
  refine xz_iadd C d_La_law_787 ?_
  refine xr_sld C S9 (by omega) (by omega) d_La_law_788 ?_
  refine xr_aload_n C 0 d_La_law_789 rfl (l0) ?_
  refine xr_iload C d_La_law_790 (l4) ?_
  refine xr_iconst C d_La_law_792 ?_
  refine xz_iadd C d_La_law_793 ?_
  refine xr_sld C S9 (by omega) (by omega) d_La_law_794 ?_
  refine xr_aload_n C 3 d_La_law_795 rfl (l3) ?_
  refine xr_callSH (As := [.ref (ad 0), .int (zI (xs ((i : Int) + 1).toNat).toInt), .int (zI (xs ((i : Int) + 2).toNat).toInt), .ref (ad 55)]) (st := []) C (j_row hLt hJ (zI_rng _) (zI_rng _)) xmh_La_115 x2_La_row (by decide) ⟨show a + 1 ≤ 601024 by omega, show b + 6 ≤ 7293034 by omega⟩ (Nat.le_of_ble_eq_true rfl) rfl d_La_law_796 (fun v n9 ad9 w9 hp => ?_)
  obtain ⟨rfl, rfl, k, rfl, ⟨fs, h29⟩, hM⟩ := hp
  show XW G 56 ad w9 (a + 1) (b + 6) 799 _ [.int (zI k)]
  refine xr_istore C d_La_law_799 (by decide) ?_
  refine xr_aload_n C 2 d_La_law_801 rfl ((va_ne (by decide)).trans (l2)) ?_
  refine xr_aload_n C 0 d_La_law_802 rfl ((va_ne (by decide)).trans (l0)) ?_
  refine xr_iload C d_La_law_803 ((va_ne (by decide)).trans (l4)) ?_
  refine xr_iconst C d_La_law_805 ?_
  refine xz_iadd C d_La_law_806 ?_
  refine xr_sld C S9 (by omega) (by omega) d_La_law_807 ?_
  refine xr_aload_n C 0 d_La_law_808 rfl ((va_ne (by decide)).trans (l0)) ?_
  refine xr_iload C d_La_law_809 ((va_ne (by decide)).trans (l4)) ?_
  refine xr_iconst C d_La_law_811 ?_
  refine xz_iadd C d_La_law_812 ?_
  refine xr_sld C S9 (by omega) (by omega) d_La_law_813 ?_
  refine xr_callV (k9 := 29) (As := [.int (zI (xs ((i : Int) + 1).toNat).toInt), .int (zI (xs ((i : Int) + 2).toNat).toInt)]) (st := []) C hM xm_La_117 x2_Md_row h29 (by decide) rfl (by decide) ⟨show a + 1 + 0 ≤ 601024 by omega, show b + 6 + 0 ≤ 7293034 by omega⟩ (Nat.le_of_ble_eq_true rfl) rfl d_La_law_814 (fun En n9 ad9 w9 hx9 => hx9.elim) (fun v n9 ad9 w3 hp => ?_)
  obtain ⟨rfl, rfl, bv, rfl, hJE⟩ := hp
  obtain ⟨hJ2, ⟨tr, ru, ro, sp, nr, ns, se, fa, so, h29⟩, hk, g, h55, hg⟩ := hJE
  show XW G 56 ad w3 (a + 1) (b + 6) 817 _ [.int (zI bv)]
  refine xr_istore C d_La_law_817 (by decide) ?_
  refine xr_aload_n C 2 d_La_law_819 rfl ((va_ne (by decide)).trans ((va_ne (by decide)).trans (l2))) ?_
  refine xr_callV (k9 := 29) (As := []) (st := []) C (m_Md_thrown h29) xm_La_79 x2_Md_thrown h29 (by decide) rfl (by decide) ⟨show a + 1 + 0 ≤ 601024 by omega, show b + 6 + 0 ≤ 7293034 by omega⟩ (Nat.le_of_ble_eq_true rfl) rfl d_La_law_820 (fun En n9 ad9 w9 hx9 => hx9.elim) (fun v n9 ad9 w4 hp => ?_)
  obtain ⟨rfl, rfl, rfl, rfl⟩ := hp
  show XW G 56 ad w3 (a + 1) (b + 6) 823 _ [.int (zI k)]
  refine xr_iload C d_La_law_823 ((va_ne (by decide)).trans va_eq) ?_
  refine xr_icmp_eq (tgt := 830) C d_La_law_825 (by decide) (fun _ => ?_) (fun q => absurd rfl q)
  refine xr_iload C d_La_law_830 ((va_ne (by decide)).trans va_eq) ?_
  refine xz_if_ne (tgt := 847) C d_La_law_832 (by decide) (by omega) (fun k0 => ?_) (fun k0 => ?_)
  · skip
    refine xr_goto (tgt := 1294) C d_La_law_847 (by decide) ?_
    exact xr_widen (by omega) (by omega) (K _ w3 hJ2 ((va_ne (by decide)).trans ((va_ne (by decide)).trans (l0))) ((va_ne (by decide)).trans ((va_ne (by decide)).trans (l1))) ((va_ne (by decide)).trans ((va_ne (by decide)).trans (l2))) ((va_ne (by decide)).trans ((va_ne (by decide)).trans (l3))) ((va_ne (by decide)).trans ((va_ne (by decide)).trans (l4))))
  · skip
    refine xr_aload_n C 3 d_La_law_835 rfl ((va_ne (by decide)).trans ((va_ne (by decide)).trans (l3))) ?_
    refine xr_iconst C d_La_law_836 ?_
    refine xr_lald (k := 55) C h55 (by decide) (by decide) (by decide) d_La_law_837 ?_
    refine xr_eql (y := (zI bv).toInt64) (hg k0) ?_
    refine xr_iload C d_La_law_838 va_eq ?_
    refine xr_i2l C d_La_law_840 ?_
    refine xr_lcmp C d_La_law_841 ?_
    refine xr_if_eq (tgt := 847) C d_La_law_842 (by decide) (fun _ => ?_) (fun q => absurd (lg_cmp_self _) q)
    refine xr_goto (tgt := 1294) C d_La_law_847 (by decide) ?_
    exact xr_widen (by omega) (by omega) (K _ w3 hJ2 ((va_ne (by decide)).trans ((va_ne (by decide)).trans (l0))) ((va_ne (by decide)).trans ((va_ne (by decide)).trans (l1))) ((va_ne (by decide)).trans ((va_ne (by decide)).trans (l2))) ((va_ne (by decide)).trans ((va_ne (by decide)).trans (l3))) ((va_ne (by decide)).trans ((va_ne (by decide)).trans (l4))))
set_option maxHeartbeats 4000000 in
set_option maxRecDepth 100000 in
theorem lc_steps (C : XC G L D cA base c_La_law 7 R_La room_1) (hLt : L.stackTraces = false) (S9 : XSc G b9 L9 xs) (hL : L9 ≤ 2048) (hi : i + 4 ≤ L9) (hJ : JI ad cA w) (ha : a + 6 ≤ 601024) (hb : b + 36 ≤ 7293034) (l0 : lv 0 = some (.ref b9)) (l1 : lv 1 = some (.ref (ad 0))) (l2 : lv 2 = some (.ref (ad 29))) (l3 : lv 3 = some (.ref (ad 55))) (l4 : lv 4 = some (.int (zI (i : Int)))) (K : ∀ (lv2 : Nat → Option Value) (w2 : Nat → va_E), JI ad cA w2 → lv2 0 = some (.ref b9) → lv2 1 = some (.ref (ad 0)) → lv2 2 = some (.ref (ad 29)) → lv2 3 = some (.ref (ad 55)) → lv2 4 = some (.int (zI (i : Int))) → XW G 56 ad w2 (a + 6) (b + 36) 1294 lv2 []) : XW G 56 ad w a b 850 lv [] := by
  obtain ⟨⟨fs0, h0⟩, ⟨fs29, h29⟩, cv, hC1, hM1⟩ := j_steps (L := L) (D := D) (base := base) hJ 
  refine xr_aload_n C 1 d_La_law_850 rfl (l1) ?_
  refine xr_callV (k9 := 0) (As := []) (st := []) C hC1 xm_La_118 x2_RS_steps h0 (by decide) rfl (by decide) ⟨show a + 0 ≤ 601024 by omega, show b + 0 ≤ 7293034 by omega⟩ (Nat.le_of_ble_eq_true rfl) rfl d_La_law_851 (fun En n9 ad9 w9 hx9 => hx9.elim) (fun v n9 ad9 w4 hp => ?_)
  obtain ⟨rfl, rfl, rfl, rfl⟩ := hp
  show XW G 56 ad w a b 854 _ [.int cv]
  refine xr_aload_n C 2 d_La_law_854 rfl (l2) ?_
  refine xr_callV (k9 := 29) (As := []) (st := [.int cv]) C hM1 xm_La_121 x2_Md_steps h29 (by decide) rfl (by decide) ⟨show a + 0 ≤ 601024 by omega, show b + 0 ≤ 7293034 by omega⟩ (Nat.le_of_ble_eq_true rfl) rfl d_La_law_855 (fun En n9 ad9 w9 hx9 => hx9.elim) (fun v n9 ad9 w4 hp => ?_)
  obtain ⟨rfl, rfl, rfl, hJ2⟩ := hp
  show XW G 56 ad w4 a b 858 _ [.int cv, .int cv]
  refine xr_icmp_eq (tgt := 1294) C d_La_law_858 (by decide) (fun _ => ?_) (fun q => absurd rfl q)
  exact xr_widen (by omega) (by omega) (K _ w4 hJ2 l0 l1 l2 l3 l4)
set_option maxHeartbeats 4000000 in
set_option maxRecDepth 100000 in
theorem lc_domain (C : XC G L D cA base c_La_law 7 R_La room_1) (hLt : L.stackTraces = false) (S9 : XSc G b9 L9 xs) (hL : L9 ≤ 2048) (hi : i + 4 ≤ L9) (hJ : JI ad cA w) (ha : a + 6 ≤ 601024) (hb : b + 36 ≤ 7293034) (l0 : lv 0 = some (.ref b9)) (l1 : lv 1 = some (.ref (ad 0))) (l2 : lv 2 = some (.ref (ad 29))) (l3 : lv 3 = some (.ref (ad 55))) (l4 : lv 4 = some (.int (zI (i : Int)))) (K : ∀ (lv2 : Nat → Option Value) (w2 : Nat → va_E), JI ad cA w2 → lv2 0 = some (.ref b9) → lv2 1 = some (.ref (ad 0)) → lv2 2 = some (.ref (ad 29)) → lv2 3 = some (.ref (ad 55)) → lv2 4 = some (.int (zI (i : Int))) → XW G 56 ad w2 (a + 6) (b + 36) 1294 lv2 []) : XW G 56 ad w a b 863 lv [] := by
  obtain ⟨⟨fs0, h0⟩, ⟨fs29, h29⟩, cv, hC1, hM1⟩ := j_domain (L := L) (D := D) (base := base) hJ 
  refine xr_aload_n C 1 d_La_law_863 rfl (l1) ?_
  refine xr_callV (k9 := 0) (As := []) (st := []) C hC1 xm_La_122 x2_RS_domain h0 (by decide) rfl (by decide) ⟨show a + 0 ≤ 601024 by omega, show b + 0 ≤ 7293034 by omega⟩ (Nat.le_of_ble_eq_true rfl) rfl d_La_law_864 (fun En n9 ad9 w9 hx9 => hx9.elim) (fun v n9 ad9 w4 hp => ?_)
  obtain ⟨rfl, rfl, rfl, rfl⟩ := hp
  show XW G 56 ad w a b 867 _ [.int cv]
  refine xr_aload_n C 2 d_La_law_867 rfl (l2) ?_
  refine xr_callV (k9 := 29) (As := []) (st := [.int cv]) C hM1 xm_La_125 x2_Md_domain h29 (by decide) rfl (by decide) ⟨show a + 0 ≤ 601024 by omega, show b + 0 ≤ 7293034 by omega⟩ (Nat.le_of_ble_eq_true rfl) rfl d_La_law_868 (fun En n9 ad9 w9 hx9 => hx9.elim) (fun v n9 ad9 w4 hp => ?_)
  obtain ⟨rfl, rfl, rfl, hJ2⟩ := hp
  show XW G 56 ad w4 a b 871 _ [.int cv, .int cv]
  refine xr_icmp_eq (tgt := 1294) C d_La_law_871 (by decide) (fun _ => ?_) (fun q => absurd rfl q)
  exact xr_widen (by omega) (by omega) (K _ w4 hJ2 l0 l1 l2 l3 l4)
set_option maxHeartbeats 4000000 in
set_option maxRecDepth 100000 in
theorem lc_lessens (C : XC G L D cA base c_La_law 7 R_La room_1) (hLt : L.stackTraces = false) (S9 : XSc G b9 L9 xs) (hL : L9 ≤ 2048) (hi : i + 4 ≤ L9) (hJ : JI ad cA w) (ha : a + 6 ≤ 601024) (hb : b + 36 ≤ 7293034) (l0 : lv 0 = some (.ref b9)) (l1 : lv 1 = some (.ref (ad 0))) (l2 : lv 2 = some (.ref (ad 29))) (l3 : lv 3 = some (.ref (ad 55))) (l4 : lv 4 = some (.int (zI (i : Int)))) (K : ∀ (lv2 : Nat → Option Value) (w2 : Nat → va_E), JI ad cA w2 → lv2 0 = some (.ref b9) → lv2 1 = some (.ref (ad 0)) → lv2 2 = some (.ref (ad 29)) → lv2 3 = some (.ref (ad 55)) → lv2 4 = some (.int (zI (i : Int))) → XW G 56 ad w2 (a + 6) (b + 36) 1294 lv2 []) : XW G 56 ad w a b 876 lv [] := by
  refine xr_aload_n C 1 d_La_law_876 rfl (l1) ?_
  refine xr_aload_n C 0 d_La_law_877 rfl (l0) ?_
  refine xr_iload C d_La_law_878 (l4) ?_
  refine xr_iconst C d_La_law_880 ?_
  refine xz_iadd C d_La_law_881 ?_
  refine xr_sld C S9 (by omega) (by omega) d_La_law_882 ?_
  refine xr_aload_n C 3 d_La_law_883 rfl (l3) ?_
  refine xr_callSH (As := [.ref (ad 0), .int (zI (xs ((i : Int) + 1).toNat).toInt), .ref (ad 55)]) (st := []) C (j_lessens hLt hJ (zI_rng _)) xmh_La_126 x2_La_lessens (by decide) ⟨show a + 1 ≤ 601024 by omega, show b + 6 ≤ 7293034 by omega⟩ (Nat.le_of_ble_eq_true rfl) rfl d_La_law_884 (fun v n9 ad9 w9 hp => ?_)
  obtain ⟨rfl, rfl, k, rfl, ⟨fs, h29⟩, hM⟩ := hp
  show XW G 56 ad w9 (a + 1) (b + 6) 887 _ [.int (zI k)]
  refine xr_istore C d_La_law_887 (by decide) ?_
  refine xr_aload_n C 2 d_La_law_889 rfl ((va_ne (by decide)).trans (l2)) ?_
  refine xr_aload_n C 0 d_La_law_890 rfl ((va_ne (by decide)).trans (l0)) ?_
  refine xr_iload C d_La_law_891 ((va_ne (by decide)).trans (l4)) ?_
  refine xr_iconst C d_La_law_893 ?_
  refine xz_iadd C d_La_law_894 ?_
  refine xr_sld C S9 (by omega) (by omega) d_La_law_895 ?_
  refine xr_callV (k9 := 29) (As := [.int (zI (xs ((i : Int) + 1).toNat).toInt)]) (st := []) C hM xm_La_128 x2_Md_lessens h29 (by decide) rfl (by decide) ⟨show a + 1 + 0 ≤ 601024 by omega, show b + 6 + 0 ≤ 7293034 by omega⟩ (Nat.le_of_ble_eq_true rfl) rfl d_La_law_896 (fun En n9 ad9 w9 hx9 => hx9.elim) (fun v n9 ad9 w3 hp => ?_)
  obtain ⟨rfl, rfl, bv, rfl, hb01, hJE⟩ := hp
  obtain ⟨hJ2, ⟨tr, ru, ro, sp, nr, ns, se, fa, so, h29⟩, hk, g, h55, hg⟩ := hJE
  show XW G 56 ad w3 (a + 1) (b + 6) 899 _ [.int (zI bv)]
  refine xr_istore C d_La_law_899 (by decide) ?_
  refine xr_aload_n C 2 d_La_law_901 rfl ((va_ne (by decide)).trans ((va_ne (by decide)).trans (l2))) ?_
  refine xr_callV (k9 := 29) (As := []) (st := []) C (m_Md_thrown h29) xm_La_79 x2_Md_thrown h29 (by decide) rfl (by decide) ⟨show a + 1 + 0 ≤ 601024 by omega, show b + 6 + 0 ≤ 7293034 by omega⟩ (Nat.le_of_ble_eq_true rfl) rfl d_La_law_902 (fun En n9 ad9 w9 hx9 => hx9.elim) (fun v n9 ad9 w4 hp => ?_)
  obtain ⟨rfl, rfl, rfl, rfl⟩ := hp
  show XW G 56 ad w3 (a + 1) (b + 6) 905 _ [.int (zI k)]
  refine xr_iload C d_La_law_905 ((va_ne (by decide)).trans va_eq) ?_
  refine xr_icmp_eq (tgt := 912) C d_La_law_907 (by decide) (fun _ => ?_) (fun q => absurd rfl q)
  refine xr_iload C d_La_law_912 ((va_ne (by decide)).trans va_eq) ?_
  refine xz_if_ne (tgt := 936) C d_La_law_914 (by decide) (by omega) (fun k0 => ?_) (fun k0 => ?_)
  · skip
    refine xr_goto (tgt := 1294) C d_La_law_936 (by decide) ?_
    exact xr_widen (by omega) (by omega) (K _ w3 hJ2 ((va_ne (by decide)).trans ((va_ne (by decide)).trans (l0))) ((va_ne (by decide)).trans ((va_ne (by decide)).trans (l1))) ((va_ne (by decide)).trans ((va_ne (by decide)).trans (l2))) ((va_ne (by decide)).trans ((va_ne (by decide)).trans (l3))) ((va_ne (by decide)).trans ((va_ne (by decide)).trans (l4))))
  · skip
    refine xr_aload_n C 3 d_La_law_917 rfl ((va_ne (by decide)).trans ((va_ne (by decide)).trans (l3))) ?_
    refine xr_iconst C d_La_law_918 ?_
    refine xr_lald (k := 55) C h55 (by decide) (by decide) (by decide) d_La_law_919 ?_
    refine xr_eql (y := (zI bv).toInt64) (hg k0) ?_
    refine xr_iload C d_La_law_920 va_eq ?_
    rcases hb01 with rfl | rfl
    · refine xz_if_eq (tgt := 929) C d_La_law_922 (by decide) (by decide) (fun _ => ?_) (fun q => absurd rfl q)
      refine xr_lconst C d_La_law_929 ?_
      refine xr_lcmp C d_La_law_930 ?_
      refine xr_if_eq (tgt := 936) C d_La_law_931 (by decide) (fun _ => ?_) (fun q => absurd (lg_cmp_of9 lz0.symm) q)
      refine xr_goto (tgt := 1294) C d_La_law_936 (by decide) ?_
      exact xr_widen (by omega) (by omega) (K _ w3 hJ2 ((va_ne (by decide)).trans ((va_ne (by decide)).trans (l0))) ((va_ne (by decide)).trans ((va_ne (by decide)).trans (l1))) ((va_ne (by decide)).trans ((va_ne (by decide)).trans (l2))) ((va_ne (by decide)).trans ((va_ne (by decide)).trans (l3))) ((va_ne (by decide)).trans ((va_ne (by decide)).trans (l4))))
    · refine xz_if_eq (tgt := 929) C d_La_law_922 (by decide) (by decide) (fun q => absurd q (by decide)) (fun _ => ?_)
      refine xr_lconst C d_La_law_925 ?_
      refine xr_goto (tgt := 930) C d_La_law_926 (by decide) ?_
      refine xr_lcmp C d_La_law_930 ?_
      refine xr_if_eq (tgt := 936) C d_La_law_931 (by decide) (fun _ => ?_) (fun q => absurd (lg_cmp_of9 lz1.symm) q)
      refine xr_goto (tgt := 1294) C d_La_law_936 (by decide) ?_
      exact xr_widen (by omega) (by omega) (K _ w3 hJ2 ((va_ne (by decide)).trans ((va_ne (by decide)).trans (l0))) ((va_ne (by decide)).trans ((va_ne (by decide)).trans (l1))) ((va_ne (by decide)).trans ((va_ne (by decide)).trans (l2))) ((va_ne (by decide)).trans ((va_ne (by decide)).trans (l3))) ((va_ne (by decide)).trans ((va_ne (by decide)).trans (l4))))
set_option maxHeartbeats 4000000 in
set_option maxRecDepth 100000 in
theorem lc_usable (C : XC G L D cA base c_La_law 7 R_La room_1) (hLt : L.stackTraces = false) (S9 : XSc G b9 L9 xs) (hL : L9 ≤ 2048) (hi : i + 4 ≤ L9) (hJ : JI ad cA w) (ha : a + 6 ≤ 601024) (hb : b + 36 ≤ 7293034) (l0 : lv 0 = some (.ref b9)) (l1 : lv 1 = some (.ref (ad 0))) (l2 : lv 2 = some (.ref (ad 29))) (l3 : lv 3 = some (.ref (ad 55))) (l4 : lv 4 = some (.int (zI (i : Int)))) (K : ∀ (lv2 : Nat → Option Value) (w2 : Nat → va_E), JI ad cA w2 → lv2 0 = some (.ref b9) → lv2 1 = some (.ref (ad 0)) → lv2 2 = some (.ref (ad 29)) → lv2 3 = some (.ref (ad 55)) → lv2 4 = some (.int (zI (i : Int))) → XW G 56 ad w2 (a + 6) (b + 36) 1294 lv2 []) : XW G 56 ad w a b 939 lv [] := by
  refine xr_aload_n C 1 d_La_law_939 rfl (l1) ?_
  refine xr_aload_n C 0 d_La_law_940 rfl (l0) ?_
  refine xr_iload C d_La_law_941 (l4) ?_
  refine xr_iconst C d_La_law_943 ?_
  refine xz_iadd C d_La_law_944 ?_
  refine xr_sld C S9 (by omega) (by omega) d_La_law_945 ?_
  refine xr_aload_n C 3 d_La_law_946 rfl (l3) ?_
  refine xr_callSH (As := [.ref (ad 0), .int (zI (xs ((i : Int) + 1).toNat).toInt), .ref (ad 55)]) (st := []) C (j_usable hLt hJ (zI_rng _)) xmh_La_129 x2_La_usable (by decide) ⟨show a + 1 ≤ 601024 by omega, show b + 6 ≤ 7293034 by omega⟩ (Nat.le_of_ble_eq_true rfl) rfl d_La_law_947 (fun v n9 ad9 w9 hp => ?_)
  obtain ⟨rfl, rfl, k, rfl, ⟨fs, h29⟩, hM⟩ := hp
  show XW G 56 ad w9 (a + 1) (b + 6) 950 _ [.int (zI k)]
  refine xr_istore C d_La_law_950 (by decide) ?_
  refine xr_aload_n C 2 d_La_law_952 rfl ((va_ne (by decide)).trans (l2)) ?_
  refine xr_aload_n C 0 d_La_law_953 rfl ((va_ne (by decide)).trans (l0)) ?_
  refine xr_iload C d_La_law_954 ((va_ne (by decide)).trans (l4)) ?_
  refine xr_iconst C d_La_law_956 ?_
  refine xz_iadd C d_La_law_957 ?_
  refine xr_sld C S9 (by omega) (by omega) d_La_law_958 ?_
  refine xr_callV (k9 := 29) (As := [.int (zI (xs ((i : Int) + 1).toNat).toInt)]) (st := []) C hM xm_La_131 x2_Md_usable h29 (by decide) rfl (by decide) ⟨show a + 1 + 0 ≤ 601024 by omega, show b + 6 + 0 ≤ 7293034 by omega⟩ (Nat.le_of_ble_eq_true rfl) rfl d_La_law_959 (fun En n9 ad9 w9 hx9 => hx9.elim) (fun v n9 ad9 w3 hp => ?_)
  obtain ⟨rfl, rfl, bv, rfl, hb01, hJE⟩ := hp
  obtain ⟨hJ2, ⟨tr, ru, ro, sp, nr, ns, se, fa, so, h29⟩, hk, g, h55, hg⟩ := hJE
  show XW G 56 ad w3 (a + 1) (b + 6) 962 _ [.int (zI bv)]
  refine xr_istore C d_La_law_962 (by decide) ?_
  refine xr_aload_n C 2 d_La_law_964 rfl ((va_ne (by decide)).trans ((va_ne (by decide)).trans (l2))) ?_
  refine xr_callV (k9 := 29) (As := []) (st := []) C (m_Md_thrown h29) xm_La_79 x2_Md_thrown h29 (by decide) rfl (by decide) ⟨show a + 1 + 0 ≤ 601024 by omega, show b + 6 + 0 ≤ 7293034 by omega⟩ (Nat.le_of_ble_eq_true rfl) rfl d_La_law_965 (fun En n9 ad9 w9 hx9 => hx9.elim) (fun v n9 ad9 w4 hp => ?_)
  obtain ⟨rfl, rfl, rfl, rfl⟩ := hp
  show XW G 56 ad w3 (a + 1) (b + 6) 968 _ [.int (zI k)]
  refine xr_iload C d_La_law_968 ((va_ne (by decide)).trans va_eq) ?_
  refine xr_icmp_eq (tgt := 975) C d_La_law_970 (by decide) (fun _ => ?_) (fun q => absurd rfl q)
  refine xr_iload C d_La_law_975 ((va_ne (by decide)).trans va_eq) ?_
  refine xz_if_ne (tgt := 999) C d_La_law_977 (by decide) (by omega) (fun k0 => ?_) (fun k0 => ?_)
  · skip
    refine xr_goto (tgt := 1294) C d_La_law_999 (by decide) ?_
    exact xr_widen (by omega) (by omega) (K _ w3 hJ2 ((va_ne (by decide)).trans ((va_ne (by decide)).trans (l0))) ((va_ne (by decide)).trans ((va_ne (by decide)).trans (l1))) ((va_ne (by decide)).trans ((va_ne (by decide)).trans (l2))) ((va_ne (by decide)).trans ((va_ne (by decide)).trans (l3))) ((va_ne (by decide)).trans ((va_ne (by decide)).trans (l4))))
  · skip
    refine xr_aload_n C 3 d_La_law_980 rfl ((va_ne (by decide)).trans ((va_ne (by decide)).trans (l3))) ?_
    refine xr_iconst C d_La_law_981 ?_
    refine xr_lald (k := 55) C h55 (by decide) (by decide) (by decide) d_La_law_982 ?_
    refine xr_eql (y := (zI bv).toInt64) (hg k0) ?_
    refine xr_iload C d_La_law_983 va_eq ?_
    rcases hb01 with rfl | rfl
    · refine xz_if_eq (tgt := 992) C d_La_law_985 (by decide) (by decide) (fun _ => ?_) (fun q => absurd rfl q)
      refine xr_lconst C d_La_law_992 ?_
      refine xr_lcmp C d_La_law_993 ?_
      refine xr_if_eq (tgt := 999) C d_La_law_994 (by decide) (fun _ => ?_) (fun q => absurd (lg_cmp_of9 lz0.symm) q)
      refine xr_goto (tgt := 1294) C d_La_law_999 (by decide) ?_
      exact xr_widen (by omega) (by omega) (K _ w3 hJ2 ((va_ne (by decide)).trans ((va_ne (by decide)).trans (l0))) ((va_ne (by decide)).trans ((va_ne (by decide)).trans (l1))) ((va_ne (by decide)).trans ((va_ne (by decide)).trans (l2))) ((va_ne (by decide)).trans ((va_ne (by decide)).trans (l3))) ((va_ne (by decide)).trans ((va_ne (by decide)).trans (l4))))
    · refine xz_if_eq (tgt := 992) C d_La_law_985 (by decide) (by decide) (fun q => absurd q (by decide)) (fun _ => ?_)
      refine xr_lconst C d_La_law_988 ?_
      refine xr_goto (tgt := 993) C d_La_law_989 (by decide) ?_
      refine xr_lcmp C d_La_law_993 ?_
      refine xr_if_eq (tgt := 999) C d_La_law_994 (by decide) (fun _ => ?_) (fun q => absurd (lg_cmp_of9 lz1.symm) q)
      refine xr_goto (tgt := 1294) C d_La_law_999 (by decide) ?_
      exact xr_widen (by omega) (by omega) (K _ w3 hJ2 ((va_ne (by decide)).trans ((va_ne (by decide)).trans (l0))) ((va_ne (by decide)).trans ((va_ne (by decide)).trans (l1))) ((va_ne (by decide)).trans ((va_ne (by decide)).trans (l2))) ((va_ne (by decide)).trans ((va_ne (by decide)).trans (l3))) ((va_ne (by decide)).trans ((va_ne (by decide)).trans (l4))))
set_option maxHeartbeats 4000000 in
set_option maxRecDepth 100000 in
theorem lc_above (C : XC G L D cA base c_La_law 7 R_La room_1) (hLt : L.stackTraces = false) (S9 : XSc G b9 L9 xs) (hL : L9 ≤ 2048) (hi : i + 4 ≤ L9) (hJ : JI ad cA w) (ha : a + 6 ≤ 601024) (hb : b + 36 ≤ 7293034) (l0 : lv 0 = some (.ref b9)) (l1 : lv 1 = some (.ref (ad 0))) (l2 : lv 2 = some (.ref (ad 29))) (l3 : lv 3 = some (.ref (ad 55))) (l4 : lv 4 = some (.int (zI (i : Int)))) (K : ∀ (lv2 : Nat → Option Value) (w2 : Nat → va_E), JI ad cA w2 → lv2 0 = some (.ref b9) → lv2 1 = some (.ref (ad 0)) → lv2 2 = some (.ref (ad 29)) → lv2 3 = some (.ref (ad 55)) → lv2 4 = some (.int (zI (i : Int))) → XW G 56 ad w2 (a + 6) (b + 36) 1294 lv2 []) : XW G 56 ad w a b 1002 lv [] := by
  refine xr_aload_n C 1 d_La_law_1002 rfl (l1) ?_
  refine xr_aload_n C 0 d_La_law_1003 rfl (l0) ?_
  refine xr_iload C d_La_law_1004 (l4) ?_
  refine xr_iconst C d_La_law_1006 ?_
  refine xz_iadd C d_La_law_1007 ?_
  refine xr_sld C S9 (by omega) (by omega) d_La_law_1008 ?_
  refine xr_aload_n C 0 d_La_law_1009 rfl (l0) ?_
  refine xr_iload C d_La_law_1010 (l4) ?_
  refine xr_iconst C d_La_law_1012 ?_
  refine xz_iadd C d_La_law_1013 ?_
  refine xr_sld C S9 (by omega) (by omega) d_La_law_1014 ?_
  refine xr_aload_n C 3 d_La_law_1015 rfl (l3) ?_
  refine xr_callSH (As := [.ref (ad 0), .int (zI (xs ((i : Int) + 1).toNat).toInt), .int (zI (xs ((i : Int) + 2).toNat).toInt), .ref (ad 55)]) (st := []) C (j_above hLt hJ (zI_rng _) (zI_rng _)) xmh_La_132 x2_La_above (by decide) ⟨show a + 2 ≤ 601024 by omega, show b + 12 ≤ 7293034 by omega⟩ (Nat.le_of_ble_eq_true rfl) rfl d_La_law_1016 (fun v n9 ad9 w9 hp => ?_)
  obtain ⟨rfl, rfl, k, rfl, ⟨fs, h29⟩, hM⟩ := hp
  show XW G 56 ad w9 (a + 2) (b + 12) 1019 _ [.int (zI k)]
  refine xr_istore C d_La_law_1019 (by decide) ?_
  refine xr_aload_n C 2 d_La_law_1021 rfl ((va_ne (by decide)).trans (l2)) ?_
  refine xr_aload_n C 0 d_La_law_1022 rfl ((va_ne (by decide)).trans (l0)) ?_
  refine xr_iload C d_La_law_1023 ((va_ne (by decide)).trans (l4)) ?_
  refine xr_iconst C d_La_law_1025 ?_
  refine xz_iadd C d_La_law_1026 ?_
  refine xr_sld C S9 (by omega) (by omega) d_La_law_1027 ?_
  refine xr_aload_n C 0 d_La_law_1028 rfl ((va_ne (by decide)).trans (l0)) ?_
  refine xr_iload C d_La_law_1029 ((va_ne (by decide)).trans (l4)) ?_
  refine xr_iconst C d_La_law_1031 ?_
  refine xz_iadd C d_La_law_1032 ?_
  refine xr_sld C S9 (by omega) (by omega) d_La_law_1033 ?_
  refine xr_callV (k9 := 29) (As := [.int (zI (xs ((i : Int) + 1).toNat).toInt), .int (zI (xs ((i : Int) + 2).toNat).toInt)]) (st := []) C hM xm_La_134 x2_Md_above h29 (by decide) rfl (by decide) ⟨show a + 2 + 0 ≤ 601024 by omega, show b + 12 + 0 ≤ 7293034 by omega⟩ (Nat.le_of_ble_eq_true rfl) rfl d_La_law_1034 (fun En n9 ad9 w9 hx9 => hx9.elim) (fun v n9 ad9 w3 hp => ?_)
  obtain ⟨rfl, rfl, bv, rfl, hb01, hJE⟩ := hp
  obtain ⟨hJ2, ⟨tr, ru, ro, sp, nr, ns, se, fa, so, h29⟩, hk, g, h55, hg⟩ := hJE
  show XW G 56 ad w3 (a + 2) (b + 12) 1037 _ [.int (zI bv)]
  refine xr_istore C d_La_law_1037 (by decide) ?_
  refine xr_aload_n C 2 d_La_law_1039 rfl ((va_ne (by decide)).trans ((va_ne (by decide)).trans (l2))) ?_
  refine xr_callV (k9 := 29) (As := []) (st := []) C (m_Md_thrown h29) xm_La_79 x2_Md_thrown h29 (by decide) rfl (by decide) ⟨show a + 2 + 0 ≤ 601024 by omega, show b + 12 + 0 ≤ 7293034 by omega⟩ (Nat.le_of_ble_eq_true rfl) rfl d_La_law_1040 (fun En n9 ad9 w9 hx9 => hx9.elim) (fun v n9 ad9 w4 hp => ?_)
  obtain ⟨rfl, rfl, rfl, rfl⟩ := hp
  show XW G 56 ad w3 (a + 2) (b + 12) 1043 _ [.int (zI k)]
  refine xr_iload C d_La_law_1043 ((va_ne (by decide)).trans va_eq) ?_
  refine xr_icmp_eq (tgt := 1050) C d_La_law_1045 (by decide) (fun _ => ?_) (fun q => absurd rfl q)
  refine xr_iload C d_La_law_1050 ((va_ne (by decide)).trans va_eq) ?_
  refine xz_if_ne (tgt := 1074) C d_La_law_1052 (by decide) (by omega) (fun k0 => ?_) (fun k0 => ?_)
  · skip
    refine xr_goto (tgt := 1294) C d_La_law_1074 (by decide) ?_
    exact xr_widen (by omega) (by omega) (K _ w3 hJ2 ((va_ne (by decide)).trans ((va_ne (by decide)).trans (l0))) ((va_ne (by decide)).trans ((va_ne (by decide)).trans (l1))) ((va_ne (by decide)).trans ((va_ne (by decide)).trans (l2))) ((va_ne (by decide)).trans ((va_ne (by decide)).trans (l3))) ((va_ne (by decide)).trans ((va_ne (by decide)).trans (l4))))
  · skip
    refine xr_aload_n C 3 d_La_law_1055 rfl ((va_ne (by decide)).trans ((va_ne (by decide)).trans (l3))) ?_
    refine xr_iconst C d_La_law_1056 ?_
    refine xr_lald (k := 55) C h55 (by decide) (by decide) (by decide) d_La_law_1057 ?_
    refine xr_eql (y := (zI bv).toInt64) (hg k0) ?_
    refine xr_iload C d_La_law_1058 va_eq ?_
    rcases hb01 with rfl | rfl
    · refine xz_if_eq (tgt := 1067) C d_La_law_1060 (by decide) (by decide) (fun _ => ?_) (fun q => absurd rfl q)
      refine xr_lconst C d_La_law_1067 ?_
      refine xr_lcmp C d_La_law_1068 ?_
      refine xr_if_eq (tgt := 1074) C d_La_law_1069 (by decide) (fun _ => ?_) (fun q => absurd (lg_cmp_of9 lz0.symm) q)
      refine xr_goto (tgt := 1294) C d_La_law_1074 (by decide) ?_
      exact xr_widen (by omega) (by omega) (K _ w3 hJ2 ((va_ne (by decide)).trans ((va_ne (by decide)).trans (l0))) ((va_ne (by decide)).trans ((va_ne (by decide)).trans (l1))) ((va_ne (by decide)).trans ((va_ne (by decide)).trans (l2))) ((va_ne (by decide)).trans ((va_ne (by decide)).trans (l3))) ((va_ne (by decide)).trans ((va_ne (by decide)).trans (l4))))
    · refine xz_if_eq (tgt := 1067) C d_La_law_1060 (by decide) (by decide) (fun q => absurd q (by decide)) (fun _ => ?_)
      refine xr_lconst C d_La_law_1063 ?_
      refine xr_goto (tgt := 1068) C d_La_law_1064 (by decide) ?_
      refine xr_lcmp C d_La_law_1068 ?_
      refine xr_if_eq (tgt := 1074) C d_La_law_1069 (by decide) (fun _ => ?_) (fun q => absurd (lg_cmp_of9 lz1.symm) q)
      refine xr_goto (tgt := 1294) C d_La_law_1074 (by decide) ?_
      exact xr_widen (by omega) (by omega) (K _ w3 hJ2 ((va_ne (by decide)).trans ((va_ne (by decide)).trans (l0))) ((va_ne (by decide)).trans ((va_ne (by decide)).trans (l1))) ((va_ne (by decide)).trans ((va_ne (by decide)).trans (l2))) ((va_ne (by decide)).trans ((va_ne (by decide)).trans (l3))) ((va_ne (by decide)).trans ((va_ne (by decide)).trans (l4))))
set_option maxHeartbeats 4000000 in
set_option maxRecDepth 100000 in
theorem lc_measure (C : XC G L D cA base c_La_law 7 R_La room_1) (hLt : L.stackTraces = false) (S9 : XSc G b9 L9 xs) (hL : L9 ≤ 2048) (hi : i + 4 ≤ L9) (hJ : JI ad cA w) (ha : a + 6 ≤ 601024) (hb : b + 36 ≤ 7293034) (l0 : lv 0 = some (.ref b9)) (l1 : lv 1 = some (.ref (ad 0))) (l2 : lv 2 = some (.ref (ad 29))) (l3 : lv 3 = some (.ref (ad 55))) (l4 : lv 4 = some (.int (zI (i : Int)))) (K : ∀ (lv2 : Nat → Option Value) (w2 : Nat → va_E), JI ad cA w2 → lv2 0 = some (.ref b9) → lv2 1 = some (.ref (ad 0)) → lv2 2 = some (.ref (ad 29)) → lv2 3 = some (.ref (ad 55)) → lv2 4 = some (.int (zI (i : Int))) → XW G 56 ad w2 (a + 6) (b + 36) 1294 lv2 []) : XW G 56 ad w a b 1077 lv [] := by
  refine xr_aload_n C 1 d_La_law_1077 rfl (l1) ?_
  refine xr_aload_n C 0 d_La_law_1078 rfl (l0) ?_
  refine xr_iload C d_La_law_1079 (l4) ?_
  refine xr_iconst C d_La_law_1081 ?_
  refine xz_iadd C d_La_law_1082 ?_
  refine xr_sld C S9 (by omega) (by omega) d_La_law_1083 ?_
  refine xr_aload_n C 0 d_La_law_1084 rfl (l0) ?_
  refine xr_iload C d_La_law_1085 (l4) ?_
  refine xr_iconst C d_La_law_1087 ?_
  refine xz_iadd C d_La_law_1088 ?_
  refine xr_sld C S9 (by omega) (by omega) d_La_law_1089 ?_
  refine xr_aload_n C 3 d_La_law_1090 rfl (l3) ?_
  refine xr_callSH (As := [.ref (ad 0), .int (zI (xs ((i : Int) + 1).toNat).toInt), .int (zI (xs ((i : Int) + 2).toNat).toInt), .ref (ad 55)]) (st := []) C (j_measure hLt hJ (zI_rng _) (zI_rng _)) xmh_La_135 x2_La_measure (by decide) ⟨show a + 2 ≤ 601024 by omega, show b + 12 ≤ 7293034 by omega⟩ (Nat.le_of_ble_eq_true rfl) rfl d_La_law_1091 (fun v n9 ad9 w9 hp => ?_)
  obtain ⟨rfl, rfl, k, rfl, ⟨fs, h29⟩, hM⟩ := hp
  show XW G 56 ad w9 (a + 2) (b + 12) 1094 _ [.int (zI k)]
  refine xr_istore C d_La_law_1094 (by decide) ?_
  refine xr_aload_n C 2 d_La_law_1096 rfl ((va_ne (by decide)).trans (l2)) ?_
  refine xr_aload_n C 0 d_La_law_1097 rfl ((va_ne (by decide)).trans (l0)) ?_
  refine xr_iload C d_La_law_1098 ((va_ne (by decide)).trans (l4)) ?_
  refine xr_iconst C d_La_law_1100 ?_
  refine xz_iadd C d_La_law_1101 ?_
  refine xr_sld C S9 (by omega) (by omega) d_La_law_1102 ?_
  refine xr_aload_n C 0 d_La_law_1103 rfl ((va_ne (by decide)).trans (l0)) ?_
  refine xr_iload C d_La_law_1104 ((va_ne (by decide)).trans (l4)) ?_
  refine xr_iconst C d_La_law_1106 ?_
  refine xz_iadd C d_La_law_1107 ?_
  refine xr_sld C S9 (by omega) (by omega) d_La_law_1108 ?_
  refine xr_callV (k9 := 29) (As := [.int (zI (xs ((i : Int) + 1).toNat).toInt), .int (zI (xs ((i : Int) + 2).toNat).toInt)]) (st := []) C hM xm_La_137 x2_Md_measure h29 (by decide) rfl (by decide) ⟨show a + 2 + 0 ≤ 601024 by omega, show b + 12 + 0 ≤ 7293034 by omega⟩ (Nat.le_of_ble_eq_true rfl) rfl d_La_law_1109 (fun En n9 ad9 w9 hx9 => hx9.elim) (fun v n9 ad9 w3 hp => ?_)
  obtain ⟨rfl, rfl, bv, rfl, hJE⟩ := hp
  obtain ⟨hJ2, ⟨tr, ru, ro, sp, nr, ns, se, fa, so, h29⟩, hk, g, h55, hg⟩ := hJE
  show XW G 56 ad w3 (a + 2) (b + 12) 1112 _ [.int (zI bv)]
  refine xr_istore C d_La_law_1112 (by decide) ?_
  refine xr_aload_n C 2 d_La_law_1114 rfl ((va_ne (by decide)).trans ((va_ne (by decide)).trans (l2))) ?_
  refine xr_callV (k9 := 29) (As := []) (st := []) C (m_Md_thrown h29) xm_La_79 x2_Md_thrown h29 (by decide) rfl (by decide) ⟨show a + 2 + 0 ≤ 601024 by omega, show b + 12 + 0 ≤ 7293034 by omega⟩ (Nat.le_of_ble_eq_true rfl) rfl d_La_law_1115 (fun En n9 ad9 w9 hx9 => hx9.elim) (fun v n9 ad9 w4 hp => ?_)
  obtain ⟨rfl, rfl, rfl, rfl⟩ := hp
  show XW G 56 ad w3 (a + 2) (b + 12) 1118 _ [.int (zI k)]
  refine xr_iload C d_La_law_1118 ((va_ne (by decide)).trans va_eq) ?_
  refine xr_icmp_eq (tgt := 1125) C d_La_law_1120 (by decide) (fun _ => ?_) (fun q => absurd rfl q)
  refine xr_iload C d_La_law_1125 ((va_ne (by decide)).trans va_eq) ?_
  refine xz_if_ne (tgt := 1142) C d_La_law_1127 (by decide) (by omega) (fun k0 => ?_) (fun k0 => ?_)
  · skip
    refine xr_goto (tgt := 1294) C d_La_law_1142 (by decide) ?_
    exact xr_widen (by omega) (by omega) (K _ w3 hJ2 ((va_ne (by decide)).trans ((va_ne (by decide)).trans (l0))) ((va_ne (by decide)).trans ((va_ne (by decide)).trans (l1))) ((va_ne (by decide)).trans ((va_ne (by decide)).trans (l2))) ((va_ne (by decide)).trans ((va_ne (by decide)).trans (l3))) ((va_ne (by decide)).trans ((va_ne (by decide)).trans (l4))))
  · skip
    refine xr_aload_n C 3 d_La_law_1130 rfl ((va_ne (by decide)).trans ((va_ne (by decide)).trans (l3))) ?_
    refine xr_iconst C d_La_law_1131 ?_
    refine xr_lald (k := 55) C h55 (by decide) (by decide) (by decide) d_La_law_1132 ?_
    refine xr_eql (y := (zI bv).toInt64) (hg k0) ?_
    refine xr_iload C d_La_law_1133 va_eq ?_
    refine xr_i2l C d_La_law_1135 ?_
    refine xr_lcmp C d_La_law_1136 ?_
    refine xr_if_eq (tgt := 1142) C d_La_law_1137 (by decide) (fun _ => ?_) (fun q => absurd (lg_cmp_self _) q)
    refine xr_goto (tgt := 1294) C d_La_law_1142 (by decide) ?_
    exact xr_widen (by omega) (by omega) (K _ w3 hJ2 ((va_ne (by decide)).trans ((va_ne (by decide)).trans (l0))) ((va_ne (by decide)).trans ((va_ne (by decide)).trans (l1))) ((va_ne (by decide)).trans ((va_ne (by decide)).trans (l2))) ((va_ne (by decide)).trans ((va_ne (by decide)).trans (l3))) ((va_ne (by decide)).trans ((va_ne (by decide)).trans (l4))))
set_option maxHeartbeats 4000000 in
set_option maxRecDepth 100000 in
theorem lc_at (C : XC G L D cA base c_La_law 7 R_La room_1) (hLt : L.stackTraces = false) (S9 : XSc G b9 L9 xs) (hL : L9 ≤ 2048) (hi : i + 4 ≤ L9) (hJ : JI ad cA w) (ha : a + 6 ≤ 601024) (hb : b + 36 ≤ 7293034) (l0 : lv 0 = some (.ref b9)) (l1 : lv 1 = some (.ref (ad 0))) (l2 : lv 2 = some (.ref (ad 29))) (l3 : lv 3 = some (.ref (ad 55))) (l4 : lv 4 = some (.int (zI (i : Int)))) (K : ∀ (lv2 : Nat → Option Value) (w2 : Nat → va_E), JI ad cA w2 → lv2 0 = some (.ref b9) → lv2 1 = some (.ref (ad 0)) → lv2 2 = some (.ref (ad 29)) → lv2 3 = some (.ref (ad 55)) → lv2 4 = some (.int (zI (i : Int))) → XW G 56 ad w2 (a + 6) (b + 36) 1294 lv2 []) : XW G 56 ad w a b 1145 lv [] := by
  refine xr_aload_n C 1 d_La_law_1145 rfl (l1) ?_
  refine xr_aload_n C 0 d_La_law_1146 rfl (l0) ?_
  refine xr_iload C d_La_law_1147 (l4) ?_
  refine xr_iconst C d_La_law_1149 ?_
  refine xz_iadd C d_La_law_1150 ?_
  refine xr_sld C S9 (by omega) (by omega) d_La_law_1151 ?_
  refine xr_aload_n C 0 d_La_law_1152 rfl (l0) ?_
  refine xr_iload C d_La_law_1153 (l4) ?_
  refine xr_iconst C d_La_law_1155 ?_
  refine xz_iadd C d_La_law_1156 ?_
  refine xr_sld C S9 (by omega) (by omega) d_La_law_1157 ?_
  refine xr_aload_n C 3 d_La_law_1158 rfl (l3) ?_
  refine xr_callSH (As := [.ref (ad 0), .int (zI (xs ((i : Int) + 1).toNat).toInt), .int (zI (xs ((i : Int) + 2).toNat).toInt), .ref (ad 55)]) (st := []) C (j_at hLt hJ (zI_rng _) (zI_rng _)) xmh_La_138 x2_La_at (by decide) ⟨show a + 1 ≤ 601024 by omega, show b + 6 ≤ 7293034 by omega⟩ (Nat.le_of_ble_eq_true rfl) rfl d_La_law_1159 (fun v n9 ad9 w9 hp => ?_)
  obtain ⟨rfl, rfl, k, rfl, ⟨fs, h29⟩, hM⟩ := hp
  show XW G 56 ad w9 (a + 1) (b + 6) 1162 _ [.int (zI k)]
  refine xr_istore C d_La_law_1162 (by decide) ?_
  refine xr_aload_n C 2 d_La_law_1164 rfl ((va_ne (by decide)).trans (l2)) ?_
  refine xr_aload_n C 0 d_La_law_1165 rfl ((va_ne (by decide)).trans (l0)) ?_
  refine xr_iload C d_La_law_1166 ((va_ne (by decide)).trans (l4)) ?_
  refine xr_iconst C d_La_law_1168 ?_
  refine xz_iadd C d_La_law_1169 ?_
  refine xr_sld C S9 (by omega) (by omega) d_La_law_1170 ?_
  refine xr_aload_n C 0 d_La_law_1171 rfl ((va_ne (by decide)).trans (l0)) ?_
  refine xr_iload C d_La_law_1172 ((va_ne (by decide)).trans (l4)) ?_
  refine xr_iconst C d_La_law_1174 ?_
  refine xz_iadd C d_La_law_1175 ?_
  refine xr_sld C S9 (by omega) (by omega) d_La_law_1176 ?_
  refine xr_callV (k9 := 29) (As := [.int (zI (xs ((i : Int) + 1).toNat).toInt), .int (zI (xs ((i : Int) + 2).toNat).toInt)]) (st := []) C hM xm_La_140 x2_Md_at h29 (by decide) rfl (by decide) ⟨show a + 1 + 0 ≤ 601024 by omega, show b + 6 + 0 ≤ 7293034 by omega⟩ (Nat.le_of_ble_eq_true rfl) rfl d_La_law_1177 (fun En n9 ad9 w9 hx9 => hx9.elim) (fun v n9 ad9 w3 hp => ?_)
  obtain ⟨rfl, rfl, bv, rfl, hJE⟩ := hp
  obtain ⟨hJ2, ⟨tr, ru, ro, sp, nr, ns, se, fa, so, h29⟩, hk, g, h55, hg⟩ := hJE
  show XW G 56 ad w3 (a + 1) (b + 6) 1180 _ [.int (zI bv)]
  refine xr_istore C d_La_law_1180 (by decide) ?_
  refine xr_aload_n C 2 d_La_law_1182 rfl ((va_ne (by decide)).trans ((va_ne (by decide)).trans (l2))) ?_
  refine xr_callV (k9 := 29) (As := []) (st := []) C (m_Md_thrown h29) xm_La_79 x2_Md_thrown h29 (by decide) rfl (by decide) ⟨show a + 1 + 0 ≤ 601024 by omega, show b + 6 + 0 ≤ 7293034 by omega⟩ (Nat.le_of_ble_eq_true rfl) rfl d_La_law_1183 (fun En n9 ad9 w9 hx9 => hx9.elim) (fun v n9 ad9 w4 hp => ?_)
  obtain ⟨rfl, rfl, rfl, rfl⟩ := hp
  show XW G 56 ad w3 (a + 1) (b + 6) 1186 _ [.int (zI k)]
  refine xr_iload C d_La_law_1186 ((va_ne (by decide)).trans va_eq) ?_
  refine xr_icmp_eq (tgt := 1193) C d_La_law_1188 (by decide) (fun _ => ?_) (fun q => absurd rfl q)
  refine xr_iload C d_La_law_1193 ((va_ne (by decide)).trans va_eq) ?_
  refine xz_if_ne (tgt := 1210) C d_La_law_1195 (by decide) (by omega) (fun k0 => ?_) (fun k0 => ?_)
  · skip
    refine xr_goto (tgt := 1294) C d_La_law_1210 (by decide) ?_
    exact xr_widen (by omega) (by omega) (K _ w3 hJ2 ((va_ne (by decide)).trans ((va_ne (by decide)).trans (l0))) ((va_ne (by decide)).trans ((va_ne (by decide)).trans (l1))) ((va_ne (by decide)).trans ((va_ne (by decide)).trans (l2))) ((va_ne (by decide)).trans ((va_ne (by decide)).trans (l3))) ((va_ne (by decide)).trans ((va_ne (by decide)).trans (l4))))
  · skip
    refine xr_aload_n C 3 d_La_law_1198 rfl ((va_ne (by decide)).trans ((va_ne (by decide)).trans (l3))) ?_
    refine xr_iconst C d_La_law_1199 ?_
    refine xr_lald (k := 55) C h55 (by decide) (by decide) (by decide) d_La_law_1200 ?_
    refine xr_eql (y := (zI bv).toInt64) (hg k0) ?_
    refine xr_iload C d_La_law_1201 va_eq ?_
    refine xr_i2l C d_La_law_1203 ?_
    refine xr_lcmp C d_La_law_1204 ?_
    refine xr_if_eq (tgt := 1210) C d_La_law_1205 (by decide) (fun _ => ?_) (fun q => absurd (lg_cmp_self _) q)
    refine xr_goto (tgt := 1294) C d_La_law_1210 (by decide) ?_
    exact xr_widen (by omega) (by omega) (K _ w3 hJ2 ((va_ne (by decide)).trans ((va_ne (by decide)).trans (l0))) ((va_ne (by decide)).trans ((va_ne (by decide)).trans (l1))) ((va_ne (by decide)).trans ((va_ne (by decide)).trans (l2))) ((va_ne (by decide)).trans ((va_ne (by decide)).trans (l3))) ((va_ne (by decide)).trans ((va_ne (by decide)).trans (l4))))
set_option maxHeartbeats 4000000 in
set_option maxRecDepth 100000 in
theorem lc_head (C : XC G L D cA base c_La_law 7 R_La room_1) (hLt : L.stackTraces = false) (S9 : XSc G b9 L9 xs) (hL : L9 ≤ 2048) (hi : i + 4 ≤ L9) (hJ : JI ad cA w) (ha : a + 6 ≤ 601024) (hb : b + 36 ≤ 7293034) (l0 : lv 0 = some (.ref b9)) (l1 : lv 1 = some (.ref (ad 0))) (l2 : lv 2 = some (.ref (ad 29))) (l3 : lv 3 = some (.ref (ad 55))) (l4 : lv 4 = some (.int (zI (i : Int)))) (K : ∀ (lv2 : Nat → Option Value) (w2 : Nat → va_E), JI ad cA w2 → lv2 0 = some (.ref b9) → lv2 1 = some (.ref (ad 0)) → lv2 2 = some (.ref (ad 29)) → lv2 3 = some (.ref (ad 55)) → lv2 4 = some (.int (zI (i : Int))) → XW G 56 ad w2 (a + 6) (b + 36) 1294 lv2 []) : XW G 56 ad w a b 1213 lv [] := by
  refine xr_aload_n C 1 d_La_law_1213 rfl (l1) ?_
  refine xr_aload_n C 0 d_La_law_1214 rfl (l0) ?_
  refine xr_iload C d_La_law_1215 (l4) ?_
  refine xr_iconst C d_La_law_1217 ?_
  refine xz_iadd C d_La_law_1218 ?_
  refine xr_sld C S9 (by omega) (by omega) d_La_law_1219 ?_
  refine xr_aload_n C 3 d_La_law_1220 rfl (l3) ?_
  refine xr_callSH (As := [.ref (ad 0), .int (zI (xs ((i : Int) + 1).toNat).toInt), .ref (ad 55)]) (st := []) C (j_head hLt hJ (zI_rng _)) xmh_La_141 x2_La_head (by decide) ⟨show a + 1 ≤ 601024 by omega, show b + 6 ≤ 7293034 by omega⟩ (Nat.le_of_ble_eq_true rfl) rfl d_La_law_1221 (fun v n9 ad9 w9 hp => ?_)
  obtain ⟨rfl, rfl, k, rfl, ⟨fs, h29⟩, hM⟩ := hp
  show XW G 56 ad w9 (a + 1) (b + 6) 1224 _ [.int (zI k)]
  refine xr_istore C d_La_law_1224 (by decide) ?_
  refine xr_aload_n C 2 d_La_law_1226 rfl ((va_ne (by decide)).trans (l2)) ?_
  refine xr_aload_n C 0 d_La_law_1227 rfl ((va_ne (by decide)).trans (l0)) ?_
  refine xr_iload C d_La_law_1228 ((va_ne (by decide)).trans (l4)) ?_
  refine xr_iconst C d_La_law_1230 ?_
  refine xz_iadd C d_La_law_1231 ?_
  refine xr_sld C S9 (by omega) (by omega) d_La_law_1232 ?_
  refine xr_callV (k9 := 29) (As := [.int (zI (xs ((i : Int) + 1).toNat).toInt)]) (st := []) C hM xm_La_143 x2_Md_head h29 (by decide) rfl (by decide) ⟨show a + 1 + 0 ≤ 601024 by omega, show b + 6 + 0 ≤ 7293034 by omega⟩ (Nat.le_of_ble_eq_true rfl) rfl d_La_law_1233 (fun En n9 ad9 w9 hx9 => hx9.elim) (fun v n9 ad9 w3 hp => ?_)
  obtain ⟨rfl, rfl, bv, rfl, hJE⟩ := hp
  obtain ⟨hJ2, ⟨tr, ru, ro, sp, nr, ns, se, fa, so, h29⟩, hk, g, h55, hg⟩ := hJE
  show XW G 56 ad w3 (a + 1) (b + 6) 1236 _ [.int (zI bv)]
  refine xr_istore C d_La_law_1236 (by decide) ?_
  refine xr_aload_n C 2 d_La_law_1238 rfl ((va_ne (by decide)).trans ((va_ne (by decide)).trans (l2))) ?_
  refine xr_callV (k9 := 29) (As := []) (st := []) C (m_Md_thrown h29) xm_La_79 x2_Md_thrown h29 (by decide) rfl (by decide) ⟨show a + 1 + 0 ≤ 601024 by omega, show b + 6 + 0 ≤ 7293034 by omega⟩ (Nat.le_of_ble_eq_true rfl) rfl d_La_law_1239 (fun En n9 ad9 w9 hx9 => hx9.elim) (fun v n9 ad9 w4 hp => ?_)
  obtain ⟨rfl, rfl, rfl, rfl⟩ := hp
  show XW G 56 ad w3 (a + 1) (b + 6) 1242 _ [.int (zI k)]
  refine xr_iload C d_La_law_1242 ((va_ne (by decide)).trans va_eq) ?_
  refine xr_icmp_eq (tgt := 1249) C d_La_law_1244 (by decide) (fun _ => ?_) (fun q => absurd rfl q)
  refine xr_iload C d_La_law_1249 ((va_ne (by decide)).trans va_eq) ?_
  refine xz_if_ne (tgt := 1266) C d_La_law_1251 (by decide) (by omega) (fun k0 => ?_) (fun k0 => ?_)
  · skip
    refine xr_goto (tgt := 1294) C d_La_law_1266 (by decide) ?_
    exact xr_widen (by omega) (by omega) (K _ w3 hJ2 ((va_ne (by decide)).trans ((va_ne (by decide)).trans (l0))) ((va_ne (by decide)).trans ((va_ne (by decide)).trans (l1))) ((va_ne (by decide)).trans ((va_ne (by decide)).trans (l2))) ((va_ne (by decide)).trans ((va_ne (by decide)).trans (l3))) ((va_ne (by decide)).trans ((va_ne (by decide)).trans (l4))))
  · skip
    refine xr_aload_n C 3 d_La_law_1254 rfl ((va_ne (by decide)).trans ((va_ne (by decide)).trans (l3))) ?_
    refine xr_iconst C d_La_law_1255 ?_
    refine xr_lald (k := 55) C h55 (by decide) (by decide) (by decide) d_La_law_1256 ?_
    refine xr_eql (y := (zI bv).toInt64) (hg k0) ?_
    refine xr_iload C d_La_law_1257 va_eq ?_
    refine xr_i2l C d_La_law_1259 ?_
    refine xr_lcmp C d_La_law_1260 ?_
    refine xr_if_eq (tgt := 1266) C d_La_law_1261 (by decide) (fun _ => ?_) (fun q => absurd (lg_cmp_self _) q)
    refine xr_goto (tgt := 1294) C d_La_law_1266 (by decide) ?_
    exact xr_widen (by omega) (by omega) (K _ w3 hJ2 ((va_ne (by decide)).trans ((va_ne (by decide)).trans (l0))) ((va_ne (by decide)).trans ((va_ne (by decide)).trans (l1))) ((va_ne (by decide)).trans ((va_ne (by decide)).trans (l2))) ((va_ne (by decide)).trans ((va_ne (by decide)).trans (l3))) ((va_ne (by decide)).trans ((va_ne (by decide)).trans (l4))))
set_option maxHeartbeats 4000000 in
set_option maxRecDepth 100000 in
theorem lc_count (C : XC G L D cA base c_La_law 7 R_La room_1) (hLt : L.stackTraces = false) (S9 : XSc G b9 L9 xs) (hL : L9 ≤ 2048) (hi : i + 4 ≤ L9) (hJ : JI ad cA w) (ha : a + 6 ≤ 601024) (hb : b + 36 ≤ 7293034) (l0 : lv 0 = some (.ref b9)) (l1 : lv 1 = some (.ref (ad 0))) (l2 : lv 2 = some (.ref (ad 29))) (l3 : lv 3 = some (.ref (ad 55))) (l4 : lv 4 = some (.int (zI (i : Int)))) (K : ∀ (lv2 : Nat → Option Value) (w2 : Nat → va_E), JI ad cA w2 → lv2 0 = some (.ref b9) → lv2 1 = some (.ref (ad 0)) → lv2 2 = some (.ref (ad 29)) → lv2 3 = some (.ref (ad 55)) → lv2 4 = some (.int (zI (i : Int))) → XW G 56 ad w2 (a + 6) (b + 36) 1294 lv2 []) : XW G 56 ad w a b 1269 lv [] := by
  obtain ⟨⟨fs0, h0⟩, ⟨fs29, h29⟩, cv, hC1, hM1⟩ := j_count (L := L) (D := D) (base := base) hJ (zI_rng (xs ((i : Int) + 1).toNat))
  refine xr_aload_n C 1 d_La_law_1269 rfl (l1) ?_
  refine xr_aload_n C 0 d_La_law_1270 rfl (l0) ?_
  refine xr_iload C d_La_law_1271 (l4) ?_
  refine xr_iconst C d_La_law_1273 ?_
  refine xz_iadd C d_La_law_1274 ?_
  refine xr_sld C S9 (by omega) (by omega) d_La_law_1275 ?_
  refine xr_callV (k9 := 0) (As := [.int (zI (xs ((i : Int) + 1).toNat).toInt)]) (st := []) C hC1 xm_La_144 x2_RS_count h0 (by decide) rfl (by decide) ⟨show a + 0 ≤ 601024 by omega, show b + 0 ≤ 7293034 by omega⟩ (Nat.le_of_ble_eq_true rfl) rfl d_La_law_1276 (fun En n9 ad9 w9 hx9 => hx9.elim) (fun v n9 ad9 w4 hp => ?_)
  obtain ⟨rfl, rfl, rfl, rfl⟩ := hp
  show XW G 56 ad w a b 1279 _ [.int cv]
  refine xr_aload_n C 2 d_La_law_1279 rfl (l2) ?_
  refine xr_aload_n C 0 d_La_law_1280 rfl (l0) ?_
  refine xr_iload C d_La_law_1281 (l4) ?_
  refine xr_iconst C d_La_law_1283 ?_
  refine xz_iadd C d_La_law_1284 ?_
  refine xr_sld C S9 (by omega) (by omega) d_La_law_1285 ?_
  refine xr_callV (k9 := 29) (As := [.int (zI (xs ((i : Int) + 1).toNat).toInt)]) (st := [.int cv]) C hM1 xm_La_147 x2_Md_count h29 (by decide) rfl (by decide) ⟨show a + 0 ≤ 601024 by omega, show b + 0 ≤ 7293034 by omega⟩ (Nat.le_of_ble_eq_true rfl) rfl d_La_law_1286 (fun En n9 ad9 w9 hx9 => hx9.elim) (fun v n9 ad9 w4 hp => ?_)
  obtain ⟨rfl, rfl, rfl, hJ2⟩ := hp
  show XW G 56 ad w4 a b 1289 _ [.int cv, .int cv]
  refine xr_icmp_eq (tgt := 1294) C d_La_law_1289 (by decide) (fun _ => ?_) (fun q => absurd rfl q)
  exact xr_widen (by omega) (by omega) (K _ w4 hJ2 l0 l1 l2 l3 l4)
end LC
