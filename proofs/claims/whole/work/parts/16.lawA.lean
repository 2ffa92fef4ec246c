section PWfg
variable {G : zG} {M : zM} {R : Room} {P : Bool} {Q : zO → zH → Prop} {pc : Nat} {pl pl' : List (Option Value)} {st : List Value} {h : zH} {nc ns : Nat}
theorem pw_forget (hf : ∀ (i : Nat) (v : Value), pl'[i]? = some (some v) → pl[i]? = some (some v)) (w : PW G M R P Q pc pl' st h nc ns) : PW G M R P Q pc pl st h nc ns := by
  intro p e s m args below meth c ad0 n C ad H locs ls hI
  exact w p e s m args below meth c ad0 n C ad H locs ls ⟨hI.1, hI.2.1, hI.2.2.1, hI.2.2.2.1, fun i v q => hI.2.2.2.2.1 i v (hf i v q), hI.2.2.2.2.2.1, hI.2.2.2.2.2.2.1, hI.2.2.2.2.2.2.2.1, fun i v q => hI.2.2.2.2.2.2.2.2 i v (hf i v q)⟩
theorem pw_fg {a b c d e x y : Option Value} (w : PW G M R P Q pc [a, b, c, d, e, none, none] st h nc ns) : PW G M R P Q pc [a, b, c, d, e, x, y] st h nc ns := by
  refine pw_forget (fun i v q => ?_) w
  match i, q with
  | 0, q => exact q
  | 1, q => exact q
  | 2, q => exact q
  | 3, q => exact q
  | 4, q => exact q
  | 5, q => simp at q
  | 6, q => simp at q
  | n + 7, q => simp at q
theorem zchk_i {A st : List Value} {n : Nat} {M' : zM} {R' R : Room} {nc ns : Nat} (h1 : A.all (fun v => v.category == 1) = true) (h2 : Nat.ble n M'.maxL = true) (h3 : Nat.ble ((st.map fun v => v.category).sum) 8 = true) (hf : zfit M' R' R nc ns) : zchk A st n M' R' R nc ns = true := by
  obtain ⟨f1, f2, f3, f4⟩ := hf
  simp only [zchk, Bool.and_eq_true]
  exact ⟨h1, h2, h3, Nat.ble_eq.mpr f1, Nat.ble_eq.mpr f2, Nat.ble_eq.mpr f3, Nat.ble_eq.mpr f4⟩
end PWfg
theorem lgc_eq (x : Int64) : lg_cmp x x = 0 := by
  unfold lg_cmp
  rw [if_neg (Int64.lt_irrefl), if_pos rfl]
theorem iN_0 {h : zH} (hN : iN h) : ∃ fs, h[0]? = some (.inr (5, fs)) := by
  obtain ⟨⟨th, op, tc, dc, jc, bc, pn, ms, ml, mo, mT, mp, pt, po, pa, pw, bs, bf, tr, tk, tb, ty, sd, fc, cc, nu, pb, so, S, hC, -⟩, -⟩ := hN
  exact ⟨_, hC.1.1⟩
/-- thrown() after a call -/
theorem iM_th {G : zG} {h : zH} {k : Int32} (hM : iM h k) : (∃ fs, h[84]? = some (.inr (6, fs))) ∧ PW G M_Md_thrown (zroom 0 0 0) true (zr (some (.int k)) h) 0 (zentry 1 [.ref 84]) [] h 0 0 := by
  obtain ⟨op, tc, dc, jc, bc, pn, ms, ml, mo, mT, mp, pt, po, pa, pw, bs, bf, tr, tk, tb, ty, sd, fc, cc, nu, pb, so, S, hC, hR, -⟩ := hM
  exact ⟨⟨_, hR.1⟩, c_thrown hR.1⟩
set_option maxRecDepth 20000 in
set_option maxHeartbeats 2000000 in
theorem k_joint {G : zG} {h : zH} {i nc ns : Nat} (hN : iN h) (hL : G.L ≤ 2563) (hi : i + 5 ≤ G.L) (hnc : nc + 1 ≤ 601024) (hns : ns + 6 ≤ 7293000) (kk : ∀ h', iN h' → PW G M_Law_law room_1 false (fun r _ => r = .inl (some (.int 1))) 1079 [some (.retAddr G.b), some (.ref 0), some (.ref 84), some (.ref 104), some (.int (nI i)), none, none] [] h' (nc + 1) (ns + 6)) : PW G M_Law_law room_1 false (fun r _ => r = .inl (some (.int 1))) 152 [some (.retAddr G.b), some (.ref 0), some (.ref 84), some (.ref 104), some (.int (nI i)), none, none] [] h nc ns := by
  obtain ⟨D9, w1, hE⟩ := e_joint (G := G) hN (a := G.xs (i + 1)) (b := G.xs (i + 2)) (c := G.xs (i + 3)) (d := G.xs (i + 4))
  refine pw_aload_n d_Law_law_152 rfl rfl ?_
  refine pw_saload_n d_Law_law_153 rfl rfl ?_
  refine pw_iload d_Law_law_154 rfl ?_
  refine pw_iconst (x := nI 1) d_Law_law_156 (by decide) ?_
  refine pw_iadd d_Law_law_157 ?_
  refine pw_sload (j := i + 1) d_Law_law_158 (nI_add i 1) (by omega) (by omega) ?_
  refine pw_saload_n d_Law_law_159 rfl rfl ?_
  refine pw_iload d_Law_law_160 rfl ?_
  refine pw_iconst (x := nI 2) d_Law_law_162 (by decide) ?_
  refine pw_iadd d_Law_law_163 ?_
  refine pw_sload (j := i + 2) d_Law_law_164 (nI_add i 2) (by omega) (by omega) ?_
  refine pw_saload_n d_Law_law_165 rfl rfl ?_
  refine pw_iload d_Law_law_166 rfl ?_
  refine pw_iconst (x := nI 3) d_Law_law_168 (by decide) ?_
  refine pw_iadd d_Law_law_169 ?_
  refine pw_sload (j := i + 3) d_Law_law_170 (nI_add i 3) (by omega) (by omega) ?_
  refine pw_saload_n d_Law_law_171 rfl rfl ?_
  refine pw_iload d_Law_law_172 rfl ?_
  refine pw_iconst (x := nI 4) d_Law_law_174 (by decide) ?_
  refine pw_iadd d_Law_law_175 ?_
  refine pw_sload (j := i + 4) d_Law_law_176 (nI_add i 4) (by omega) (by omega) ?_
  refine pw_aload_n d_Law_law_177 rfl rfl ?_
  refine pw_callSW (R' := zroom 8 1 6) (P' := false) [.ref 0, .int (G.xs (i + 1)), .int (G.xs (i + 2)), .int (G.xs (i + 3)), .int (G.xs (i + 4)), .ref 104] (fun q => nomatch q) d_Law_law_178 lw_Law_69 rfl (zchk_i rfl rfl rfl ⟨by decide, by decide, (by show nc + 1 ≤ 601024; omega), (by show ns + 6 ≤ 7293000; omega)⟩) w1 (fun r h' q => by obtain ⟨k, e, -⟩ := q; exact ⟨_, e⟩) (fun v h2 q => ?_)
  obtain ⟨k, e9, hD⟩ := q
  cases e9
  obtain ⟨⟨fs, h84⟩, w2⟩ := hE k h2 hD
  refine pw_istore d_Law_law_181 (by decide) (pl' := [some (.retAddr G.b), some (.ref 0), some (.ref 84), some (.ref 104), some (.int (nI i)), some (.int k), none]) rfl ?_
  refine pw_aload_n d_Law_law_183 rfl rfl ?_
  refine pw_saload_n d_Law_law_184 rfl rfl ?_
  refine pw_iload d_Law_law_185 rfl ?_
  refine pw_iconst (x := nI 1) d_Law_law_187 (by decide) ?_
  refine pw_iadd d_Law_law_188 ?_
  refine pw_sload (j := i + 1) d_Law_law_189 (nI_add i 1) (by omega) (by omega) ?_
  refine pw_saload_n d_Law_law_190 rfl rfl ?_
  refine pw_iload d_Law_law_191 rfl ?_
  refine pw_iconst (x := nI 2) d_Law_law_193 (by decide) ?_
  refine pw_iadd d_Law_law_194 ?_
  refine pw_sload (j := i + 2) d_Law_law_195 (nI_add i 2) (by omega) (by omega) ?_
  refine pw_saload_n d_Law_law_196 rfl rfl ?_
  refine pw_iload d_Law_law_197 rfl ?_
  refine pw_iconst (x := nI 3) d_Law_law_199 (by decide) ?_
  refine pw_iadd d_Law_law_200 ?_
  refine pw_sload (j := i + 3) d_Law_law_201 (nI_add i 3) (by omega) (by omega) ?_
  refine pw_saload_n d_Law_law_202 rfl rfl ?_
  refine pw_iload d_Law_law_203 rfl ?_
  refine pw_iconst (x := nI 4) d_Law_law_205 (by decide) ?_
  refine pw_iadd d_Law_law_206 ?_
  refine pw_sload (j := i + 4) d_Law_law_207 (nI_add i 4) (by omega) (by omega) ?_
  refine pw_callV (R' := zroom 4 0 0) (P' := false) [.int (G.xs (i + 1)), .int (G.xs (i + 2)), .int (G.xs (i + 3)), .int (G.xs (i + 4))] (fun q => nomatch q) d_Law_law_208 lk_Law_72 h84 rfl rfl (zac rfl) (Nat.le_of_ble_eq_true rfl) ⟨by decide, by decide, (by show nc + 1 + 0 ≤ 601024; omega), (by show ns + 6 + 0 ≤ 7293000; omega)⟩ (Nat.le_of_ble_eq_true rfl) w2 (fun r h' q => by obtain ⟨t, e, -⟩ := q; exact ⟨_, e⟩) (fun v h3 q => ?_)
  obtain ⟨t, e9, hE3⟩ := q
  cases e9
  refine pw_istore d_Law_law_211 (by decide) (pl' := [some (.retAddr G.b), some (.ref 0), some (.ref 84), some (.ref 104), some (.int (nI i)), some (.int k), some (.int t)]) rfl ?_
  have hM3 := hE3.1
  obtain ⟨⟨fs3, h843⟩, w3⟩ := iM_th (G := G) hM3
  refine pw_aload_n d_Law_law_213 rfl rfl ?_
  refine pw_callV (R' := zroom 0 0 0) (P' := true) [] (fun _ => rfl) d_Law_law_214 lk_Law_73 h843 rfl rfl (zac rfl) (by decide) ⟨by decide, by decide, (by show nc + 1 + 0 + 0 ≤ 601024; omega), (by show ns + 6 + 0 + 0 ≤ 7293000; omega)⟩ (Nat.le_of_ble_eq_true rfl) w3 zr_ret (fun v h4 q => ?_)
  obtain ⟨e9, rfl⟩ := q
  cases e9
  refine pw_iload d_Law_law_217 rfl ?_
  refine pw_icmp_eq 224 d_Law_law_219 (by decide) (fun _ => ?_) (fun q => absurd rfl q)
  refine pw_iload d_Law_law_224 rfl ?_
  refine pw_if_ne 241 d_Law_law_226 (by decide) (fun q0 => ?_) (fun q0 => ?_)
  · refine pw_goto 1079 d_Law_law_241 (by decide) ?_
    exact pw_fg (pw_widen (by show nc + 1 + 0 + 0 ≤ nc + 1; omega) (by show ns + 6 + 0 + 0 ≤ ns + 6; omega) (kk _ (iE_N hE3)))
  · obtain ⟨fl, hO3, hv3⟩ := hE3.2
    have hv := hv3 q0
    refine pw_aload_n d_Law_law_229 rfl rfl ?_
    refine pw_iconst (x := 0) d_Law_law_230 (by decide) ?_
    refine pw_laload d_Law_law_231 hO3 rfl zin0 ?_
    refine pw_iload d_Law_law_232 rfl ?_
    refine pw_i2l d_Law_law_234 ?_
    refine pw_lcmp d_Law_law_235 ?_
    refine pw_if_eq 241 d_Law_law_236 (by decide) (fun _ => ?_) (fun q => absurd (by rw [show fl (Int32.toNatClampNeg 0) = t.toInt64 from hv]; exact lgc_eq _) q)
    refine pw_goto 1079 d_Law_law_241 (by decide) ?_
    exact pw_fg (pw_widen (by show nc + 1 + 0 + 0 ≤ nc + 1; omega) (by show ns + 6 + 0 + 0 ≤ ns + 6; omega) (kk _ (iE_N hE3)))
set_option maxRecDepth 20000 in
set_option maxHeartbeats 2000000 in
theorem k_open {G : zG} {h : zH} {i nc ns : Nat} (hN : iN h) (hL : G.L ≤ 2563) (hi : i + 5 ≤ G.L) (hnc : nc + 1 ≤ 601024) (hns : ns + 6 ≤ 7293000) (kk : ∀ h', iN h' → PW G M_Law_law room_1 false (fun r _ => r = .inl (some (.int 1))) 1079 [some (.retAddr G.b), some (.ref 0), some (.ref 84), some (.ref 104), some (.int (nI i)), none, none] [] h' (nc + 1) (ns + 6)) : PW G M_Law_law room_1 false (fun r _ => r = .inl (some (.int 1))) 257 [some (.retAddr G.b), some (.ref 0), some (.ref 84), some (.ref 104), some (.int (nI i)), none, none] [] h nc ns := by
  by_cases hq : G.xs (i + 2) = 0
  · obtain ⟨D9, w1, hE⟩ := e_open (G := G) hN (a := G.xs (i + 1)) (b := 0) (by decide)
    refine pw_aload_n d_Law_law_257 rfl rfl ?_
    refine pw_saload_n d_Law_law_258 rfl rfl ?_
    refine pw_iload d_Law_law_259 rfl ?_
    refine pw_iconst (x := nI 1) d_Law_law_261 (by decide) ?_
    refine pw_iadd d_Law_law_262 ?_
    refine pw_sload (j := i + 1) d_Law_law_263 (nI_add i 1) (by omega) (by omega) ?_
    refine pw_saload_n d_Law_law_264 rfl rfl ?_
    refine pw_iload d_Law_law_265 rfl ?_
    refine pw_iconst (x := nI 2) d_Law_law_267 (by decide) ?_
    refine pw_iadd d_Law_law_268 ?_
    refine pw_sload (j := i + 2) d_Law_law_269 (nI_add i 2) (by omega) (by omega) ?_
    refine pw_if_eq 277 d_Law_law_270 (by decide) (fun _ => ?_) (fun q => absurd hq q)
    refine pw_iconst (x := 0) d_Law_law_277 (by decide) ?_
    refine pw_aload_n d_Law_law_278 rfl rfl ?_
    refine pw_callSW (R' := zroom 8 1 6) (P' := false) [.ref 0, .int (G.xs (i + 1)), .int 0, .ref 104] (fun q => nomatch q) d_Law_law_279 lw_Law_81 rfl (zchk_i rfl rfl rfl ⟨by decide, by decide, (by show nc + 1 ≤ 601024; omega), (by show ns + 6 ≤ 7293000; omega)⟩) w1 (fun r h' q => by obtain ⟨k, e, -⟩ := q; exact ⟨_, e⟩) (fun v h2 q => ?_)
    obtain ⟨k, e9, hD⟩ := q
    cases e9
    obtain ⟨⟨fs, h84⟩, w2⟩ := hE k h2 hD
    refine pw_istore d_Law_law_282 (by decide) (pl' := [some (.retAddr G.b), some (.ref 0), some (.ref 84), some (.ref 104), some (.int (nI i)), some (.int k), none]) rfl ?_
    refine pw_aload_n d_Law_law_284 rfl rfl ?_
    refine pw_saload_n d_Law_law_285 rfl rfl ?_
    refine pw_iload d_Law_law_286 rfl ?_
    refine pw_iconst (x := nI 1) d_Law_law_288 (by decide) ?_
    refine pw_iadd d_Law_law_289 ?_
    refine pw_sload (j := i + 1) d_Law_law_290 (nI_add i 1) (by omega) (by omega) ?_
    refine pw_saload_n d_Law_law_291 rfl rfl ?_
    refine pw_iload d_Law_law_292 rfl ?_
    refine pw_iconst (x := nI 2) d_Law_law_294 (by decide) ?_
    refine pw_iadd d_Law_law_295 ?_
    refine pw_sload (j := i + 2) d_Law_law_296 (nI_add i 2) (by omega) (by omega) ?_
    refine pw_if_eq 304 d_Law_law_297 (by decide) (fun _ => ?_) (fun q => absurd hq q)
    refine pw_iconst (x := 0) d_Law_law_304 (by decide) ?_
    refine pw_callV (R' := zroom 1 0 0) (P' := false) [.int (G.xs (i + 1)), .int 0] (fun q => nomatch q) d_Law_law_305 lk_Law_84 h84 rfl rfl (zac rfl) (Nat.le_of_ble_eq_true rfl) ⟨by decide, by decide, (by show nc + 1 + 0 ≤ 601024; omega), (by show ns + 6 + 0 ≤ 7293000; omega)⟩ (Nat.le_of_ble_eq_true rfl) w2 (fun r h' q => by obtain ⟨t, e, -⟩ := q; exact ⟨_, e⟩) (fun v h3 q => ?_)
    obtain ⟨t, e9, hE3⟩ := q
    cases e9
    refine pw_istore d_Law_law_308 (by decide) (pl' := [some (.retAddr G.b), some (.ref 0), some (.ref 84), some (.ref 104), some (.int (nI i)), some (.int k), some (.int t)]) rfl ?_
    have hM3 := hE3.1
    obtain ⟨⟨fs3, h843⟩, w3⟩ := iM_th (G := G) hM3
    refine pw_aload_n d_Law_law_310 rfl rfl ?_
    refine pw_callV (R' := zroom 0 0 0) (P' := true) [] (fun _ => rfl) d_Law_law_311 lk_Law_73 h843 rfl rfl (zac rfl) (by decide) ⟨by decide, by decide, (by show nc + 1 + 0 + 0 ≤ 601024; omega), (by show ns + 6 + 0 + 0 ≤ 7293000; omega)⟩ (Nat.le_of_ble_eq_true rfl) w3 zr_ret (fun v h4 q => ?_)
    obtain ⟨e9, rfl⟩ := q
    cases e9
    refine pw_iload d_Law_law_314 rfl ?_
    refine pw_icmp_eq 321 d_Law_law_316 (by decide) (fun _ => ?_) (fun q => absurd rfl q)
    refine pw_iload d_Law_law_321 rfl ?_
    refine pw_if_ne 345 d_Law_law_323 (by decide) (fun q0 => ?_) (fun q0 => ?_)
    · refine pw_goto 1079 d_Law_law_345 (by decide) ?_
      exact pw_fg (pw_widen (by show nc + 1 + 0 + 0 ≤ nc + 1; omega) (by show ns + 6 + 0 + 0 ≤ ns + 6; omega) (kk _ (iE_N hE3)))
    · obtain ⟨fl, hO3, hv3⟩ := hE3.2
      have hv := hv3 q0
      refine pw_aload_n d_Law_law_326 rfl rfl ?_
      refine pw_iconst (x := 0) d_Law_law_327 (by decide) ?_
      refine pw_laload d_Law_law_328 hO3 rfl zin0 ?_
      refine pw_iload d_Law_law_329 rfl ?_
      refine pw_if_eq 338 d_Law_law_331 (by decide) (fun q1 => ?_) (fun q1 => ?_)
      · refine pw_lconst (x := 0) d_Law_law_338 (by decide) ?_
        refine pw_lcmp d_Law_law_339 ?_
        refine pw_if_eq 345 d_Law_law_340 (by decide) (fun _ => ?_) (fun q => absurd (by rw [show fl (Int32.toNatClampNeg 0) = 0 from hv.trans (if_pos q1)]; exact lgc_eq _) q)
        refine pw_goto 1079 d_Law_law_345 (by decide) ?_
        exact pw_fg (pw_widen (by show nc + 1 + 0 + 0 ≤ nc + 1; omega) (by show ns + 6 + 0 + 0 ≤ ns + 6; omega) (kk _ (iE_N hE3)))
      · refine pw_lconst (x := 1) d_Law_law_334 (by decide) ?_
        refine pw_goto 339 d_Law_law_335 (by decide) ?_
        refine pw_lcmp d_Law_law_339 ?_
        refine pw_if_eq 345 d_Law_law_340 (by decide) (fun _ => ?_) (fun q => absurd (by rw [show fl (Int32.toNatClampNeg 0) = 1 from hv.trans (if_neg q1)]; exact lgc_eq _) q)
        refine pw_goto 1079 d_Law_law_345 (by decide) ?_
        exact pw_fg (pw_widen (by show nc + 1 + 0 + 0 ≤ nc + 1; omega) (by show ns + 6 + 0 + 0 ≤ ns + 6; omega) (kk _ (iE_N hE3)))
  · obtain ⟨D9, w1, hE⟩ := e_open (G := G) hN (a := G.xs (i + 1)) (b := 1) (by decide)
    refine pw_aload_n d_Law_law_257 rfl rfl ?_
    refine pw_saload_n d_Law_law_258 rfl rfl ?_
    refine pw_iload d_Law_law_259 rfl ?_
    refine pw_iconst (x := nI 1) d_Law_law_261 (by decide) ?_
    refine pw_iadd d_Law_law_262 ?_
    refine pw_sload (j := i + 1) d_Law_law_263 (nI_add i 1) (by omega) (by omega) ?_
    refine pw_saload_n d_Law_law_264 rfl rfl ?_
    refine pw_iload d_Law_law_265 rfl ?_
    refine pw_iconst (x := nI 2) d_Law_law_267 (by decide) ?_
    refine pw_iadd d_Law_law_268 ?_
    refine pw_sload (j := i + 2) d_Law_law_269 (nI_add i 2) (by omega) (by omega) ?_
    refine pw_if_eq 277 d_Law_law_270 (by decide) (fun q => absurd q hq) (fun _ => ?_)
    refine pw_iconst (x := 1) d_Law_law_273 (by decide) ?_
    refine pw_goto 278 d_Law_law_274 (by decide) ?_
    refine pw_aload_n d_Law_law_278 rfl rfl ?_
    refine pw_callSW (R' := zroom 8 1 6) (P' := false) [.ref 0, .int (G.xs (i + 1)), .int 1, .ref 104] (fun q => nomatch q) d_Law_law_279 lw_Law_81 rfl (zchk_i rfl rfl rfl ⟨by decide, by decide, (by show nc + 1 ≤ 601024; omega), (by show ns + 6 ≤ 7293000; omega)⟩) w1 (fun r h' q => by obtain ⟨k, e, -⟩ := q; exact ⟨_, e⟩) (fun v h2 q => ?_)
    obtain ⟨k, e9, hD⟩ := q
    cases e9
    obtain ⟨⟨fs, h84⟩, w2⟩ := hE k h2 hD
    refine pw_istore d_Law_law_282 (by decide) (pl' := [some (.retAddr G.b), some (.ref 0), some (.ref 84), some (.ref 104), some (.int (nI i)), some (.int k), none]) rfl ?_
    refine pw_aload_n d_Law_law_284 rfl rfl ?_
    refine pw_saload_n d_Law_law_285 rfl rfl ?_
    refine pw_iload d_Law_law_286 rfl ?_
    refine pw_iconst (x := nI 1) d_Law_law_288 (by decide) ?_
    refine pw_iadd d_Law_law_289 ?_
    refine pw_sload (j := i + 1) d_Law_law_290 (nI_add i 1) (by omega) (by omega) ?_
    refine pw_saload_n d_Law_law_291 rfl rfl ?_
    refine pw_iload d_Law_law_292 rfl ?_
    refine pw_iconst (x := nI 2) d_Law_law_294 (by decide) ?_
    refine pw_iadd d_Law_law_295 ?_
    refine pw_sload (j := i + 2) d_Law_law_296 (nI_add i 2) (by omega) (by omega) ?_
    refine pw_if_eq 304 d_Law_law_297 (by decide) (fun q => absurd q hq) (fun _ => ?_)
    refine pw_iconst (x := 1) d_Law_law_300 (by decide) ?_
    refine pw_goto 305 d_Law_law_301 (by decide) ?_
    refine pw_callV (R' := zroom 1 0 0) (P' := false) [.int (G.xs (i + 1)), .int 1] (fun q => nomatch q) d_Law_law_305 lk_Law_84 h84 rfl rfl (zac rfl) (Nat.le_of_ble_eq_true rfl) ⟨by decide, by decide, (by show nc + 1 + 0 ≤ 601024; omega), (by show ns + 6 + 0 ≤ 7293000; omega)⟩ (Nat.le_of_ble_eq_true rfl) w2 (fun r h' q => by obtain ⟨t, e, -⟩ := q; exact ⟨_, e⟩) (fun v h3 q => ?_)
    obtain ⟨t, e9, hE3⟩ := q
    cases e9
    refine pw_istore d_Law_law_308 (by decide) (pl' := [some (.retAddr G.b), some (.ref 0), some (.ref 84), some (.ref 104), some (.int (nI i)), some (.int k), some (.int t)]) rfl ?_
    have hM3 := hE3.1
    obtain ⟨⟨fs3, h843⟩, w3⟩ := iM_th (G := G) hM3
    refine pw_aload_n d_Law_law_310 rfl rfl ?_
    refine pw_callV (R' := zroom 0 0 0) (P' := true) [] (fun _ => rfl) d_Law_law_311 lk_Law_73 h843 rfl rfl (zac rfl) (by decide) ⟨by decide, by decide, (by show nc + 1 + 0 + 0 ≤ 601024; omega), (by show ns + 6 + 0 + 0 ≤ 7293000; omega)⟩ (Nat.le_of_ble_eq_true rfl) w3 zr_ret (fun v h4 q => ?_)
    obtain ⟨e9, rfl⟩ := q
    cases e9
    refine pw_iload d_Law_law_314 rfl ?_
    refine pw_icmp_eq 321 d_Law_law_316 (by decide) (fun _ => ?_) (fun q => absurd rfl q)
    refine pw_iload d_Law_law_321 rfl ?_
    refine pw_if_ne 345 d_Law_law_323 (by decide) (fun q0 => ?_) (fun q0 => ?_)
    · refine pw_goto 1079 d_Law_law_345 (by decide) ?_
      exact pw_fg (pw_widen (by show nc + 1 + 0 + 0 ≤ nc + 1; omega) (by show ns + 6 + 0 + 0 ≤ ns + 6; omega) (kk _ (iE_N hE3)))
    · obtain ⟨fl, hO3, hv3⟩ := hE3.2
      have hv := hv3 q0
      refine pw_aload_n d_Law_law_326 rfl rfl ?_
      refine pw_iconst (x := 0) d_Law_law_327 (by decide) ?_
      refine pw_laload d_Law_law_328 hO3 rfl zin0 ?_
      refine pw_iload d_Law_law_329 rfl ?_
      refine pw_if_eq 338 d_Law_law_331 (by decide) (fun q1 => ?_) (fun q1 => ?_)
      · refine pw_lconst (x := 0) d_Law_law_338 (by decide) ?_
        refine pw_lcmp d_Law_law_339 ?_
        refine pw_if_eq 345 d_Law_law_340 (by decide) (fun _ => ?_) (fun q => absurd (by rw [show fl (Int32.toNatClampNeg 0) = 0 from hv.trans (if_pos q1)]; exact lgc_eq _) q)
        refine pw_goto 1079 d_Law_law_345 (by decide) ?_
        exact pw_fg (pw_widen (by show nc + 1 + 0 + 0 ≤ nc + 1; omega) (by show ns + 6 + 0 + 0 ≤ ns + 6; omega) (kk _ (iE_N hE3)))
      · refine pw_lconst (x := 1) d_Law_law_334 (by decide) ?_
        refine pw_goto 339 d_Law_law_335 (by decide) ?_
        refine pw_lcmp d_Law_law_339 ?_
        refine pw_if_eq 345 d_Law_law_340 (by decide) (fun _ => ?_) (fun q => absurd (by rw [show fl (Int32.toNatClampNeg 0) = 1 from hv.trans (if_neg q1)]; exact lgc_eq _) q)
        refine pw_goto 1079 d_Law_law_345 (by decide) ?_
        exact pw_fg (pw_widen (by show nc + 1 + 0 + 0 ≤ nc + 1; omega) (by show ns + 6 + 0 + 0 ≤ ns + 6; omega) (kk _ (iE_N hE3)))
set_option maxRecDepth 20000 in
set_option maxHeartbeats 2000000 in
theorem k_direction {G : zG} {h : zH} {i nc ns : Nat} (hN : iN h) (hL : G.L ≤ 2563) (hi : i + 5 ≤ G.L) (hnc : nc + 1 ≤ 601024) (hns : ns + 6 ≤ 7293000) (kk : ∀ h', iN h' → PW G M_Law_law room_1 false (fun r _ => r = .inl (some (.int 1))) 1079 [some (.retAddr G.b), some (.ref 0), some (.ref 84), some (.ref 104), some (.int (nI i)), none, none] [] h' (nc + 1) (ns + 6)) : PW G M_Law_law room_1 false (fun r _ => r = .inl (some (.int 1))) 348 [some (.retAddr G.b), some (.ref 0), some (.ref 84), some (.ref 104), some (.int (nI i)), none, none] [] h nc ns := by
  obtain ⟨D9, w1, hE⟩ := e_direction (G := G) hN (a := G.xs (i + 1)) (b := G.xs (i + 2)) (c := G.xs (i + 3))
  refine pw_aload_n d_Law_law_348 rfl rfl ?_
  refine pw_saload_n d_Law_law_349 rfl rfl ?_
  refine pw_iload d_Law_law_350 rfl ?_
  refine pw_iconst (x := nI 1) d_Law_law_352 (by decide) ?_
  refine pw_iadd d_Law_law_353 ?_
  refine pw_sload (j := i + 1) d_Law_law_354 (nI_add i 1) (by omega) (by omega) ?_
  refine pw_saload_n d_Law_law_355 rfl rfl ?_
  refine pw_iload d_Law_law_356 rfl ?_
  refine pw_iconst (x := nI 2) d_Law_law_358 (by decide) ?_
  refine pw_iadd d_Law_law_359 ?_
  refine pw_sload (j := i + 2) d_Law_law_360 (nI_add i 2) (by omega) (by omega) ?_
  refine pw_saload_n d_Law_law_361 rfl rfl ?_
  refine pw_iload d_Law_law_362 rfl ?_
  refine pw_iconst (x := nI 3) d_Law_law_364 (by decide) ?_
  refine pw_iadd d_Law_law_365 ?_
  refine pw_sload (j := i + 3) d_Law_law_366 (nI_add i 3) (by omega) (by omega) ?_
  refine pw_aload_n d_Law_law_367 rfl rfl ?_
  refine pw_callSW (R' := zroom 8 1 6) (P' := false) [.ref 0, .int (G.xs (i + 1)), .int (G.xs (i + 2)), .int (G.xs (i + 3)), .ref 104] (fun q => nomatch q) d_Law_law_368 lw_Law_85 rfl (zchk_i rfl rfl rfl ⟨by decide, by decide, (by show nc + 1 ≤ 601024; omega), (by show ns + 6 ≤ 7293000; omega)⟩) w1 (fun r h' q => by obtain ⟨k, e, -⟩ := q; exact ⟨_, e⟩) (fun v h2 q => ?_)
  obtain ⟨k, e9, hD⟩ := q
  cases e9
  obtain ⟨⟨fs, h84⟩, w2⟩ := hE k h2 hD
  refine pw_istore d_Law_law_371 (by decide) (pl' := [some (.retAddr G.b), some (.ref 0), some (.ref 84), some (.ref 104), some (.int (nI i)), some (.int k), none]) rfl ?_
  refine pw_aload_n d_Law_law_373 rfl rfl ?_
  refine pw_saload_n d_Law_law_374 rfl rfl ?_
  refine pw_iload d_Law_law_375 rfl ?_
  refine pw_iconst (x := nI 1) d_Law_law_377 (by decide) ?_
  refine pw_iadd d_Law_law_378 ?_
  refine pw_sload (j := i + 1) d_Law_law_379 (nI_add i 1) (by omega) (by omega) ?_
  refine pw_saload_n d_Law_law_380 rfl rfl ?_
  refine pw_iload d_Law_law_381 rfl ?_
  refine pw_iconst (x := nI 2) d_Law_law_383 (by decide) ?_
  refine pw_iadd d_Law_law_384 ?_
  refine pw_sload (j := i + 2) d_Law_law_385 (nI_add i 2) (by omega) (by omega) ?_
  refine pw_saload_n d_Law_law_386 rfl rfl ?_
  refine pw_iload d_Law_law_387 rfl ?_
  refine pw_iconst (x := nI 3) d_Law_law_389 (by decide) ?_
  refine pw_iadd d_Law_law_390 ?_
  refine pw_sload (j := i + 3) d_Law_law_391 (nI_add i 3) (by omega) (by omega) ?_
  refine pw_callV (R' := zroom 2 0 0) (P' := false) [.int (G.xs (i + 1)), .int (G.xs (i + 2)), .int (G.xs (i + 3))] (fun q => nomatch q) d_Law_law_392 lk_Law_88 h84 rfl rfl (zac rfl) (Nat.le_of_ble_eq_true rfl) ⟨by decide, by decide, (by show nc + 1 + 0 ≤ 601024; omega), (by show ns + 6 + 0 ≤ 7293000; omega)⟩ (Nat.le_of_ble_eq_true rfl) w2 (fun r h' q => by obtain ⟨t, e, -⟩ := q; exact ⟨_, e⟩) (fun v h3 q => ?_)
  obtain ⟨t, e9, hE3⟩ := q
  cases e9
  refine pw_istore d_Law_law_395 (by decide) (pl' := [some (.retAddr G.b), some (.ref 0), some (.ref 84), some (.ref 104), some (.int (nI i)), some (.int k), some (.int t)]) rfl ?_
  have hM3 := hE3.1
  obtain ⟨⟨fs3, h843⟩, w3⟩ := iM_th (G := G) hM3
  refine pw_aload_n d_Law_law_397 rfl rfl ?_
  refine pw_callV (R' := zroom 0 0 0) (P' := true) [] (fun _ => rfl) d_Law_law_398 lk_Law_73 h843 rfl rfl (zac rfl) (by decide) ⟨by decide, by decide, (by show nc + 1 + 0 + 0 ≤ 601024; omega), (by show ns + 6 + 0 + 0 ≤ 7293000; omega)⟩ (Nat.le_of_ble_eq_true rfl) w3 zr_ret (fun v h4 q => ?_)
  obtain ⟨e9, rfl⟩ := q
  cases e9
  refine pw_iload d_Law_law_401 rfl ?_
  refine pw_icmp_eq 408 d_Law_law_403 (by decide) (fun _ => ?_) (fun q => absurd rfl q)
  refine pw_iload d_Law_law_408 rfl ?_
  refine pw_if_ne 425 d_Law_law_410 (by decide) (fun q0 => ?_) (fun q0 => ?_)
  · refine pw_goto 1079 d_Law_law_425 (by decide) ?_
    exact pw_fg (pw_widen (by show nc + 1 + 0 + 0 ≤ nc + 1; omega) (by show ns + 6 + 0 + 0 ≤ ns + 6; omega) (kk _ (iE_N hE3)))
  · obtain ⟨fl, hO3, hv3⟩ := hE3.2
    have hv := hv3 q0
    refine pw_aload_n d_Law_law_413 rfl rfl ?_
    refine pw_iconst (x := 0) d_Law_law_414 (by decide) ?_
    refine pw_laload d_Law_law_415 hO3 rfl zin0 ?_
    refine pw_iload d_Law_law_416 rfl ?_
    refine pw_i2l d_Law_law_418 ?_
    refine pw_lcmp d_Law_law_419 ?_
    refine pw_if_eq 425 d_Law_law_420 (by decide) (fun _ => ?_) (fun q => absurd (by rw [show fl (Int32.toNatClampNeg 0) = t.toInt64 from hv]; exact lgc_eq _) q)
    refine pw_goto 1079 d_Law_law_425 (by decide) ?_
    exact pw_fg (pw_widen (by show nc + 1 + 0 + 0 ≤ nc + 1; omega) (by show ns + 6 + 0 + 0 ≤ ns + 6; omega) (kk _ (iE_N hE3)))
set_option maxRecDepth 20000 in
set_option maxHeartbeats 2000000 in
theorem k_pull {G : zG} {h : zH} {i nc ns : Nat} (hN : iN h) (hL : G.L ≤ 2563) (hi : i + 5 ≤ G.L) (hnc : nc + 1 ≤ 601024) (hns : ns + 6 ≤ 7293000) (kk : ∀ h', iN h' → PW G M_Law_law room_1 false (fun r _ => r = .inl (some (.int 1))) 1079 [some (.retAddr G.b), some (.ref 0), some (.ref 84), some (.ref 104), some (.int (nI i)), none, none] [] h' (nc + 1) (ns + 6)) : PW G M_Law_law room_1 false (fun r _ => r = .inl (some (.int 1))) 428 [some (.retAddr G.b), some (.ref 0), some (.ref 84), some (.ref 104), some (.int (nI i)), none, none] [] h nc ns := by
  obtain ⟨D9, w1, hE⟩ := e_pull (G := G) hN (a := G.xs (i + 1)) (b := G.xs (i + 2)) (c := G.xs (i + 3))
  refine pw_aload_n d_Law_law_428 rfl rfl ?_
  refine pw_saload_n d_Law_law_429 rfl rfl ?_
  refine pw_iload d_Law_law_430 rfl ?_
  refine pw_iconst (x := nI 1) d_Law_law_432 (by decide) ?_
  refine pw_iadd d_Law_law_433 ?_
  refine pw_sload (j := i + 1) d_Law_law_434 (nI_add i 1) (by omega) (by omega) ?_
  refine pw_saload_n d_Law_law_435 rfl rfl ?_
  refine pw_iload d_Law_law_436 rfl ?_
  refine pw_iconst (x := nI 2) d_Law_law_438 (by decide) ?_
  refine pw_iadd d_Law_law_439 ?_
  refine pw_sload (j := i + 2) d_Law_law_440 (nI_add i 2) (by omega) (by omega) ?_
  refine pw_saload_n d_Law_law_441 rfl rfl ?_
  refine pw_iload d_Law_law_442 rfl ?_
  refine pw_iconst (x := nI 3) d_Law_law_444 (by decide) ?_
  refine pw_iadd d_Law_law_445 ?_
  refine pw_sload (j := i + 3) d_Law_law_446 (nI_add i 3) (by omega) (by omega) ?_
  refine pw_callSW (R' := zroom 8 1 6) (P' := false) [.ref 0, .int (G.xs (i + 1)), .int (G.xs (i + 2)), .int (G.xs (i + 3))] (fun q => nomatch q) d_Law_law_447 lw_Law_89 rfl (zchk_i rfl rfl rfl ⟨by decide, by decide, (by show nc + 1 ≤ 601024; omega), (by show ns + 6 ≤ 7293000; omega)⟩) w1 (fun r h' q => by obtain ⟨k, e, -⟩ := q; exact ⟨_, e⟩) (fun v h2 q => ?_)
  obtain ⟨k, e9, hD⟩ := q
  cases e9
  obtain ⟨⟨fs, h84⟩, w2⟩ := hE k h2 hD
  refine pw_istore d_Law_law_450 (by decide) (pl' := [some (.retAddr G.b), some (.ref 0), some (.ref 84), some (.ref 104), some (.int (nI i)), some (.int k), none]) rfl ?_
  refine pw_aload_n d_Law_law_452 rfl rfl ?_
  refine pw_saload_n d_Law_law_453 rfl rfl ?_
  refine pw_iload d_Law_law_454 rfl ?_
  refine pw_iconst (x := nI 1) d_Law_law_456 (by decide) ?_
  refine pw_iadd d_Law_law_457 ?_
  refine pw_sload (j := i + 1) d_Law_law_458 (nI_add i 1) (by omega) (by omega) ?_
  refine pw_saload_n d_Law_law_459 rfl rfl ?_
  refine pw_iload d_Law_law_460 rfl ?_
  refine pw_iconst (x := nI 2) d_Law_law_462 (by decide) ?_
  refine pw_iadd d_Law_law_463 ?_
  refine pw_sload (j := i + 2) d_Law_law_464 (nI_add i 2) (by omega) (by omega) ?_
  refine pw_saload_n d_Law_law_465 rfl rfl ?_
  refine pw_iload d_Law_law_466 rfl ?_
  refine pw_iconst (x := nI 3) d_Law_law_468 (by decide) ?_
  refine pw_iadd d_Law_law_469 ?_
  refine pw_sload (j := i + 3) d_Law_law_470 (nI_add i 3) (by omega) (by omega) ?_
  refine pw_callV (R' := zroom 2 0 0) (P' := false) [.int (G.xs (i + 1)), .int (G.xs (i + 2)), .int (G.xs (i + 3))] (fun q => nomatch q) d_Law_law_471 lk_Law_92 h84 rfl rfl (zac rfl) (Nat.le_of_ble_eq_true rfl) ⟨by decide, by decide, (by show nc + 1 + 0 ≤ 601024; omega), (by show ns + 6 + 0 ≤ 7293000; omega)⟩ (Nat.le_of_ble_eq_true rfl) w2 (fun r h' q => ⟨_, q.1⟩) (fun v h3 q => ?_)
  obtain ⟨e9, hM3, hO3⟩ := q
  cases e9
  obtain ⟨⟨fs3, h843⟩, w3⟩ := iM_th (G := G) hM3
  refine pw_aload_n d_Law_law_474 rfl rfl ?_
  refine pw_callV (R' := zroom 0 0 0) (P' := true) [] (fun _ => rfl) d_Law_law_475 lk_Law_73 h843 rfl rfl (zac rfl) (by decide) ⟨by decide, by decide, (by show nc + 1 + 0 + 0 ≤ 601024; omega), (by show ns + 6 + 0 + 0 ≤ 7293000; omega)⟩ (Nat.le_of_ble_eq_true rfl) w3 zr_ret (fun v h4 q => ?_)
  obtain ⟨e9, rfl⟩ := q
  cases e9
  refine pw_iload d_Law_law_478 rfl ?_
  refine pw_icmp_eq 485 d_Law_law_480 (by decide) (fun _ => ?_) (fun q => absurd rfl q)
  refine pw_goto 1079 d_Law_law_485 (by decide) ?_
  exact pw_fg (pw_widen (by show nc + 1 + 0 + 0 ≤ nc + 1; omega) (by show ns + 6 + 0 + 0 ≤ ns + 6; omega) (kk _ ⟨⟨_, hM3⟩, hO3⟩))
set_option maxRecDepth 20000 in
set_option maxHeartbeats 2000000 in
theorem k_block {G : zG} {h : zH} {i nc ns : Nat} (hN : iN h) (hL : G.L ≤ 2563) (hi : i + 5 ≤ G.L) (hnc : nc + 1 ≤ 601024) (hns : ns + 6 ≤ 7293000) (kk : ∀ h', iN h' → PW G M_Law_law room_1 false (fun r _ => r = .inl (some (.int 1))) 1079 [some (.retAddr G.b), some (.ref 0), some (.ref 84), some (.ref 104), some (.int (nI i)), none, none] [] h' (nc + 1) (ns + 6)) : PW G M_Law_law room_1 false (fun r _ => r = .inl (some (.int 1))) 501 [some (.retAddr G.b), some (.ref 0), some (.ref 84), some (.ref 104), some (.int (nI i)), none, none] [] h nc ns := by
  obtain ⟨D9, w1, hE⟩ := e_block (G := G) hN (a := G.xs (i + 1)) (b := G.xs (i + 2))
  refine pw_aload_n d_Law_law_501 rfl rfl ?_
  refine pw_saload_n d_Law_law_502 rfl rfl ?_
  refine pw_iload d_Law_law_503 rfl ?_
  refine pw_iconst (x := nI 1) d_Law_law_505 (by decide) ?_
  refine pw_iadd d_Law_law_506 ?_
  refine pw_sload (j := i + 1) d_Law_law_507 (nI_add i 1) (by omega) (by omega) ?_
  refine pw_saload_n d_Law_law_508 rfl rfl ?_
  refine pw_iload d_Law_law_509 rfl ?_
  refine pw_iconst (x := nI 2) d_Law_law_511 (by decide) ?_
  refine pw_iadd d_Law_law_512 ?_
  refine pw_sload (j := i + 2) d_Law_law_513 (nI_add i 2) (by omega) (by omega) ?_
  refine pw_aload_n d_Law_law_514 rfl rfl ?_
  refine pw_callSW (R' := zroom 8 1 6) (P' := false) [.ref 0, .int (G.xs (i + 1)), .int (G.xs (i + 2)), .ref 104] (fun q => nomatch q) d_Law_law_515 lw_Law_97 rfl (zchk_i rfl rfl rfl ⟨by decide, by decide, (by show nc + 1 ≤ 601024; omega), (by show ns + 6 ≤ 7293000; omega)⟩) w1 (fun r h' q => by obtain ⟨k, e, -⟩ := q; exact ⟨_, e⟩) (fun v h2 q => ?_)
  obtain ⟨k, e9, hD⟩ := q
  cases e9
  obtain ⟨⟨fs, h84⟩, w2⟩ := hE k h2 hD
  refine pw_istore d_Law_law_518 (by decide) (pl' := [some (.retAddr G.b), some (.ref 0), some (.ref 84), some (.ref 104), some (.int (nI i)), some (.int k), none]) rfl ?_
  refine pw_aload_n d_Law_law_520 rfl rfl ?_
  refine pw_saload_n d_Law_law_521 rfl rfl ?_
  refine pw_iload d_Law_law_522 rfl ?_
  refine pw_iconst (x := nI 1) d_Law_law_524 (by decide) ?_
  refine pw_iadd d_Law_law_525 ?_
  refine pw_sload (j := i + 1) d_Law_law_526 (nI_add i 1) (by omega) (by omega) ?_
  refine pw_saload_n d_Law_law_527 rfl rfl ?_
  refine pw_iload d_Law_law_528 rfl ?_
  refine pw_iconst (x := nI 2) d_Law_law_530 (by decide) ?_
  refine pw_iadd d_Law_law_531 ?_
  refine pw_sload (j := i + 2) d_Law_law_532 (nI_add i 2) (by omega) (by omega) ?_
  refine pw_callV (R' := zroom 2 0 0) (P' := false) [.int (G.xs (i + 1)), .int (G.xs (i + 2))] (fun q => nomatch q) d_Law_law_533 lk_Law_100 h84 rfl rfl (zac rfl) (Nat.le_of_ble_eq_true rfl) ⟨by decide, by decide, (by show nc + 1 + 0 ≤ 601024; omega), (by show ns + 6 + 0 ≤ 7293000; omega)⟩ (Nat.le_of_ble_eq_true rfl) w2 (fun r h' q => by obtain ⟨t, e, -⟩ := q; exact ⟨_, e⟩) (fun v h3 q => ?_)
  obtain ⟨t, e9, hE3⟩ := q
  cases e9
  refine pw_istore d_Law_law_536 (by decide) (pl' := [some (.retAddr G.b), some (.ref 0), some (.ref 84), some (.ref 104), some (.int (nI i)), some (.int k), some (.int t)]) rfl ?_
  have hM3 := hE3.1
  obtain ⟨⟨fs3, h843⟩, w3⟩ := iM_th (G := G) hM3
  refine pw_aload_n d_Law_law_538 rfl rfl ?_
  refine pw_callV (R' := zroom 0 0 0) (P' := true) [] (fun _ => rfl) d_Law_law_539 lk_Law_73 h843 rfl rfl (zac rfl) (by decide) ⟨by decide, by decide, (by show nc + 1 + 0 + 0 ≤ 601024; omega), (by show ns + 6 + 0 + 0 ≤ 7293000; omega)⟩ (Nat.le_of_ble_eq_true rfl) w3 zr_ret (fun v h4 q => ?_)
  obtain ⟨e9, rfl⟩ := q
  cases e9
  refine pw_iload d_Law_law_542 rfl ?_
  refine pw_icmp_eq 549 d_Law_law_544 (by decide) (fun _ => ?_) (fun q => absurd rfl q)
  refine pw_iload d_Law_law_549 rfl ?_
  refine pw_if_ne 566 d_Law_law_551 (by decide) (fun q0 => ?_) (fun q0 => ?_)
  · refine pw_goto 1079 d_Law_law_566 (by decide) ?_
    exact pw_fg (pw_widen (by show nc + 1 + 0 + 0 ≤ nc + 1; omega) (by show ns + 6 + 0 + 0 ≤ ns + 6; omega) (kk _ (iE_N hE3)))
  · obtain ⟨fl, hO3, hv3⟩ := hE3.2
    have hv := hv3 q0
    refine pw_aload_n d_Law_law_554 rfl rfl ?_
    refine pw_iconst (x := 0) d_Law_law_555 (by decide) ?_
    refine pw_laload d_Law_law_556 hO3 rfl zin0 ?_
    refine pw_iload d_Law_law_557 rfl ?_
    refine pw_i2l d_Law_law_559 ?_
    refine pw_lcmp d_Law_law_560 ?_
    refine pw_if_eq 566 d_Law_law_561 (by decide) (fun _ => ?_) (fun q => absurd (by rw [show fl (Int32.toNatClampNeg 0) = t.toInt64 from hv]; exact lgc_eq _) q)
    refine pw_goto 1079 d_Law_law_566 (by decide) ?_
    exact pw_fg (pw_widen (by show nc + 1 + 0 + 0 ≤ nc + 1; omega) (by show ns + 6 + 0 + 0 ≤ ns + 6; omega) (kk _ (iE_N hE3)))
set_option maxRecDepth 20000 in
set_option maxHeartbeats 2000000 in
theorem k_corner {G : zG} {h : zH} {i nc ns : Nat} (hN : iN h) (hL : G.L ≤ 2563) (hi : i + 5 ≤ G.L) (hnc : nc + 1 ≤ 601024) (hns : ns + 6 ≤ 7293000) (kk : ∀ h', iN h' → PW G M_Law_law room_1 false (fun r _ => r = .inl (some (.int 1))) 1079 [some (.retAddr G.b), some (.ref 0), some (.ref 84), some (.ref 104), some (.int (nI i)), none, none] [] h' (nc + 1) (ns + 6)) : PW G M_Law_law room_1 false (fun r _ => r = .inl (some (.int 1))) 569 [some (.retAddr G.b), some (.ref 0), some (.ref 84), some (.ref 104), some (.int (nI i)), none, none] [] h nc ns := by
  obtain ⟨D9, w1, hE⟩ := e_corner (G := G) hN (a := G.xs (i + 1)) (b := G.xs (i + 2)) (c := G.xs (i + 3))
  refine pw_aload_n d_Law_law_569 rfl rfl ?_
  refine pw_saload_n d_Law_law_570 rfl rfl ?_
  refine pw_iload d_Law_law_571 rfl ?_
  refine pw_iconst (x := nI 1) d_Law_law_573 (by decide) ?_
  refine pw_iadd d_Law_law_574 ?_
  refine pw_sload (j := i + 1) d_Law_law_575 (nI_add i 1) (by omega) (by omega) ?_
  refine pw_saload_n d_Law_law_576 rfl rfl ?_
  refine pw_iload d_Law_law_577 rfl ?_
  refine pw_iconst (x := nI 2) d_Law_law_579 (by decide) ?_
  refine pw_iadd d_Law_law_580 ?_
  refine pw_sload (j := i + 2) d_Law_law_581 (nI_add i 2) (by omega) (by omega) ?_
  refine pw_saload_n d_Law_law_582 rfl rfl ?_
  refine pw_iload d_Law_law_583 rfl ?_
  refine pw_iconst (x := nI 3) d_Law_law_585 (by decide) ?_
  refine pw_iadd d_Law_law_586 ?_
  refine pw_sload (j := i + 3) d_Law_law_587 (nI_add i 3) (by omega) (by omega) ?_
  refine pw_aload_n d_Law_law_588 rfl rfl ?_
  refine pw_callSW (R' := zroom 8 1 6) (P' := false) [.ref 0, .int (G.xs (i + 1)), .int (G.xs (i + 2)), .int (G.xs (i + 3)), .ref 104] (fun q => nomatch q) d_Law_law_589 lw_Law_101 rfl (zchk_i rfl rfl rfl ⟨by decide, by decide, (by show nc + 1 ≤ 601024; omega), (by show ns + 6 ≤ 7293000; omega)⟩) w1 (fun r h' q => by obtain ⟨k, e, -⟩ := q; exact ⟨_, e⟩) (fun v h2 q => ?_)
  obtain ⟨k, e9, hD⟩ := q
  cases e9
  obtain ⟨⟨fs, h84⟩, w2⟩ := hE k h2 hD
  refine pw_istore d_Law_law_592 (by decide) (pl' := [some (.retAddr G.b), some (.ref 0), some (.ref 84), some (.ref 104), some (.int (nI i)), some (.int k), none]) rfl ?_
  refine pw_aload_n d_Law_law_594 rfl rfl ?_
  refine pw_saload_n d_Law_law_595 rfl rfl ?_
  refine pw_iload d_Law_law_596 rfl ?_
  refine pw_iconst (x := nI 1) d_Law_law_598 (by decide) ?_
  refine pw_iadd d_Law_law_599 ?_
  refine pw_sload (j := i + 1) d_Law_law_600 (nI_add i 1) (by omega) (by omega) ?_
  refine pw_saload_n d_Law_law_601 rfl rfl ?_
  refine pw_iload d_Law_law_602 rfl ?_
  refine pw_iconst (x := nI 2) d_Law_law_604 (by decide) ?_
  refine pw_iadd d_Law_law_605 ?_
  refine pw_sload (j := i + 2) d_Law_law_606 (nI_add i 2) (by omega) (by omega) ?_
  refine pw_saload_n d_Law_law_607 rfl rfl ?_
  refine pw_iload d_Law_law_608 rfl ?_
  refine pw_iconst (x := nI 3) d_Law_law_610 (by decide) ?_
  refine pw_iadd d_Law_law_611 ?_
  refine pw_sload (j := i + 3) d_Law_law_612 (nI_add i 3) (by omega) (by omega) ?_
  refine pw_callV (R' := zroom 2 0 0) (P' := false) [.int (G.xs (i + 1)), .int (G.xs (i + 2)), .int (G.xs (i + 3))] (fun q => nomatch q) d_Law_law_613 lk_Law_103 h84 rfl rfl (zac rfl) (Nat.le_of_ble_eq_true rfl) ⟨by decide, by decide, (by show nc + 1 + 0 ≤ 601024; omega), (by show ns + 6 + 0 ≤ 7293000; omega)⟩ (Nat.le_of_ble_eq_true rfl) w2 (fun r h' q => by obtain ⟨t, e, -⟩ := q; exact ⟨_, e⟩) (fun v h3 q => ?_)
  obtain ⟨t, e9, hE3⟩ := q
  cases e9
  refine pw_istore d_Law_law_616 (by decide) (pl' := [some (.retAddr G.b), some (.ref 0), some (.ref 84), some (.ref 104), some (.int (nI i)), some (.int k), some (.int t)]) rfl ?_
  have hM3 := hE3.1
  obtain ⟨⟨fs3, h843⟩, w3⟩ := iM_th (G := G) hM3
  refine pw_aload_n d_Law_law_618 rfl rfl ?_
  refine pw_callV (R' := zroom 0 0 0) (P' := true) [] (fun _ => rfl) d_Law_law_619 lk_Law_73 h843 rfl rfl (zac rfl) (by decide) ⟨by decide, by decide, (by show nc + 1 + 0 + 0 ≤ 601024; omega), (by show ns + 6 + 0 + 0 ≤ 7293000; omega)⟩ (Nat.le_of_ble_eq_true rfl) w3 zr_ret (fun v h4 q => ?_)
  obtain ⟨e9, rfl⟩ := q
  cases e9
  refine pw_iload d_Law_law_622 rfl ?_
  refine pw_icmp_eq 629 d_Law_law_624 (by decide) (fun _ => ?_) (fun q => absurd rfl q)
  refine pw_iload d_Law_law_629 rfl ?_
  refine pw_if_ne 646 d_Law_law_631 (by decide) (fun q0 => ?_) (fun q0 => ?_)
  · refine pw_goto 1079 d_Law_law_646 (by decide) ?_
    exact pw_fg (pw_widen (by show nc + 1 + 0 + 0 ≤ nc + 1; omega) (by show ns + 6 + 0 + 0 ≤ ns + 6; omega) (kk _ (iE_N hE3)))
  · obtain ⟨fl, hO3, hv3⟩ := hE3.2
    have hv := hv3 q0
    refine pw_aload_n d_Law_law_634 rfl rfl ?_
    refine pw_iconst (x := 0) d_Law_law_635 (by decide) ?_
    refine pw_laload d_Law_law_636 hO3 rfl zin0 ?_
    refine pw_iload d_Law_law_637 rfl ?_
    refine pw_i2l d_Law_law_639 ?_
    refine pw_lcmp d_Law_law_640 ?_
    refine pw_if_eq 646 d_Law_law_641 (by decide) (fun _ => ?_) (fun q => absurd (by rw [show fl (Int32.toNatClampNeg 0) = t.toInt64 from hv]; exact lgc_eq _) q)
    refine pw_goto 1079 d_Law_law_646 (by decide) ?_
    exact pw_fg (pw_widen (by show nc + 1 + 0 + 0 ≤ nc + 1; omega) (by show ns + 6 + 0 + 0 ≤ ns + 6; omega) (kk _ (iE_N hE3)))
set_option maxRecDepth 20000 in
set_option maxHeartbeats 2000000 in
theorem k_beside {G : zG} {h : zH} {i nc ns : Nat} (hN : iN h) (hL : G.L ≤ 2563) (hi : i + 5 ≤ G.L) (hnc : nc + 1 ≤ 601024) (hns : ns + 6 ≤ 7293000) (kk : ∀ h', iN h' → PW G M_Law_law room_1 false (fun r _ => r = .inl (some (.int 1))) 1079 [some (.retAddr G.b), some (.ref 0), some (.ref 84), some (.ref 104), some (.int (nI i)), none, none] [] h' (nc + 1) (ns + 6)) : PW G M_Law_law room_1 false (fun r _ => r = .inl (some (.int 1))) 674 [some (.retAddr G.b), some (.ref 0), some (.ref 84), some (.ref 104), some (.int (nI i)), none, none] [] h nc ns := by
  obtain ⟨D9, w1, hE⟩ := e_beside (G := G) hN (a := G.xs (i + 1)) (b := G.xs (i + 2))
  refine pw_aload_n d_Law_law_674 rfl rfl ?_
  refine pw_saload_n d_Law_law_675 rfl rfl ?_
  refine pw_iload d_Law_law_676 rfl ?_
  refine pw_iconst (x := nI 1) d_Law_law_678 (by decide) ?_
  refine pw_iadd d_Law_law_679 ?_
  refine pw_sload (j := i + 1) d_Law_law_680 (nI_add i 1) (by omega) (by omega) ?_
  refine pw_saload_n d_Law_law_681 rfl rfl ?_
  refine pw_iload d_Law_law_682 rfl ?_
  refine pw_iconst (x := nI 2) d_Law_law_684 (by decide) ?_
  refine pw_iadd d_Law_law_685 ?_
  refine pw_sload (j := i + 2) d_Law_law_686 (nI_add i 2) (by omega) (by omega) ?_
  refine pw_aload_n d_Law_law_687 rfl rfl ?_
  refine pw_callSW (R' := zroom 8 1 6) (P' := false) [.ref 0, .int (G.xs (i + 1)), .int (G.xs (i + 2)), .ref 104] (fun q => nomatch q) d_Law_law_688 lw_Law_108 rfl (zchk_i rfl rfl rfl ⟨by decide, by decide, (by show nc + 1 ≤ 601024; omega), (by show ns + 6 ≤ 7293000; omega)⟩) w1 (fun r h' q => by obtain ⟨k, e, -⟩ := q; exact ⟨_, e⟩) (fun v h2 q => ?_)
  obtain ⟨k, e9, hD⟩ := q
  cases e9
  obtain ⟨⟨fs, h84⟩, w2⟩ := hE k h2 hD
  refine pw_istore d_Law_law_691 (by decide) (pl' := [some (.retAddr G.b), some (.ref 0), some (.ref 84), some (.ref 104), some (.int (nI i)), some (.int k), none]) rfl ?_
  refine pw_aload_n d_Law_law_693 rfl rfl ?_
  refine pw_saload_n d_Law_law_694 rfl rfl ?_
  refine pw_iload d_Law_law_695 rfl ?_
  refine pw_iconst (x := nI 1) d_Law_law_697 (by decide) ?_
  refine pw_iadd d_Law_law_698 ?_
  refine pw_sload (j := i + 1) d_Law_law_699 (nI_add i 1) (by omega) (by omega) ?_
  refine pw_saload_n d_Law_law_700 rfl rfl ?_
  refine pw_iload d_Law_law_701 rfl ?_
  refine pw_iconst (x := nI 2) d_Law_law_703 (by decide) ?_
  refine pw_iadd d_Law_law_704 ?_
  refine pw_sload (j := i + 2) d_Law_law_705 (nI_add i 2) (by omega) (by omega) ?_
  refine pw_callV (R' := zroom 2 0 0) (P' := false) [.int (G.xs (i + 1)), .int (G.xs (i + 2))] (fun q => nomatch q) d_Law_law_706 lk_Law_110 h84 rfl rfl (zac rfl) (Nat.le_of_ble_eq_true rfl) ⟨by decide, by decide, (by show nc + 1 + 0 ≤ 601024; omega), (by show ns + 6 + 0 ≤ 7293000; omega)⟩ (Nat.le_of_ble_eq_true rfl) w2 (fun r h' q => by obtain ⟨t, e, -⟩ := q; exact ⟨_, e⟩) (fun v h3 q => ?_)
  obtain ⟨t, e9, hE3⟩ := q
  cases e9
  refine pw_istore d_Law_law_709 (by decide) (pl' := [some (.retAddr G.b), some (.ref 0), some (.ref 84), some (.ref 104), some (.int (nI i)), some (.int k), some (.int t)]) rfl ?_
  have hM3 := hE3.1
  obtain ⟨⟨fs3, h843⟩, w3⟩ := iM_th (G := G) hM3
  refine pw_aload_n d_Law_law_711 rfl rfl ?_
  refine pw_callV (R' := zroom 0 0 0) (P' := true) [] (fun _ => rfl) d_Law_law_712 lk_Law_73 h843 rfl rfl (zac rfl) (by decide) ⟨by decide, by decide, (by show nc + 1 + 0 + 0 ≤ 601024; omega), (by show ns + 6 + 0 + 0 ≤ 7293000; omega)⟩ (Nat.le_of_ble_eq_true rfl) w3 zr_ret (fun v h4 q => ?_)
  obtain ⟨e9, rfl⟩ := q
  cases e9
  refine pw_iload d_Law_law_715 rfl ?_
  refine pw_icmp_eq 722 d_Law_law_717 (by decide) (fun _ => ?_) (fun q => absurd rfl q)
  refine pw_iload d_Law_law_722 rfl ?_
  refine pw_if_ne 739 d_Law_law_724 (by decide) (fun q0 => ?_) (fun q0 => ?_)
  · refine pw_goto 1079 d_Law_law_739 (by decide) ?_
    exact pw_fg (pw_widen (by show nc + 1 + 0 + 0 ≤ nc + 1; omega) (by show ns + 6 + 0 + 0 ≤ ns + 6; omega) (kk _ (iE_N hE3)))
  · obtain ⟨fl, hO3, hv3⟩ := hE3.2
    have hv := hv3 q0
    refine pw_aload_n d_Law_law_727 rfl rfl ?_
    refine pw_iconst (x := 0) d_Law_law_728 (by decide) ?_
    refine pw_laload d_Law_law_729 hO3 rfl zin0 ?_
    refine pw_iload d_Law_law_730 rfl ?_
    refine pw_i2l d_Law_law_732 ?_
    refine pw_lcmp d_Law_law_733 ?_
    refine pw_if_eq 739 d_Law_law_734 (by decide) (fun _ => ?_) (fun q => absurd (by rw [show fl (Int32.toNatClampNeg 0) = t.toInt64 from hv]; exact lgc_eq _) q)
    refine pw_goto 1079 d_Law_law_739 (by decide) ?_
    exact pw_fg (pw_widen (by show nc + 1 + 0 + 0 ≤ nc + 1; omega) (by show ns + 6 + 0 + 0 ≤ ns + 6; omega) (kk _ (iE_N hE3)))
set_option maxRecDepth 20000 in
set_option maxHeartbeats 2000000 in
theorem k_goes {G : zG} {h : zH} {i nc ns : Nat} (hN : iN h) (hL : G.L ≤ 2563) (hi : i + 5 ≤ G.L) (hnc : nc + 1 ≤ 601024) (hns : ns + 6 ≤ 7293000) (kk : ∀ h', iN h' → PW G M_Law_law room_1 false (fun r _ => r = .inl (some (.int 1))) 1079 [some (.retAddr G.b), some (.ref 0), some (.ref 84), some (.ref 104), some (.int (nI i)), none, none] [] h' (nc + 1) (ns + 6)) : PW G M_Law_law room_1 false (fun r _ => r = .inl (some (.int 1))) 742 [some (.retAddr G.b), some (.ref 0), some (.ref 84), some (.ref 104), some (.int (nI i)), none, none] [] h nc ns := by
  obtain ⟨D9, w1, hE⟩ := e_goes (G := G) hN (a := G.xs (i + 1)) (b := G.xs (i + 2))
  refine pw_aload_n d_Law_law_742 rfl rfl ?_
  refine pw_saload_n d_Law_law_743 rfl rfl ?_
  refine pw_iload d_Law_law_744 rfl ?_
  refine pw_iconst (x := nI 1) d_Law_law_746 (by decide) ?_
  refine pw_iadd d_Law_law_747 ?_
  refine pw_sload (j := i + 1) d_Law_law_748 (nI_add i 1) (by omega) (by omega) ?_
  refine pw_saload_n d_Law_law_749 rfl rfl ?_
  refine pw_iload d_Law_law_750 rfl ?_
  refine pw_iconst (x := nI 2) d_Law_law_752 (by decide) ?_
  refine pw_iadd d_Law_law_753 ?_
  refine pw_sload (j := i + 2) d_Law_law_754 (nI_add i 2) (by omega) (by omega) ?_
  refine pw_aload_n d_Law_law_755 rfl rfl ?_
  refine pw_callSW (R' := zroom 8 1 6) (P' := false) [.ref 0, .int (G.xs (i + 1)), .int (G.xs (i + 2)), .ref 104] (fun q => nomatch q) d_Law_law_756 lw_Law_111 rfl (zchk_i rfl rfl rfl ⟨by decide, by decide, (by show nc + 1 ≤ 601024; omega), (by show ns + 6 ≤ 7293000; omega)⟩) w1 (fun r h' q => by obtain ⟨k, e, -⟩ := q; exact ⟨_, e⟩) (fun v h2 q => ?_)
  obtain ⟨k, e9, hD⟩ := q
  cases e9
  obtain ⟨⟨fs, h84⟩, w2⟩ := hE k h2 hD
  refine pw_istore d_Law_law_759 (by decide) (pl' := [some (.retAddr G.b), some (.ref 0), some (.ref 84), some (.ref 104), some (.int (nI i)), some (.int k), none]) rfl ?_
  refine pw_aload_n d_Law_law_761 rfl rfl ?_
  refine pw_saload_n d_Law_law_762 rfl rfl ?_
  refine pw_iload d_Law_law_763 rfl ?_
  refine pw_iconst (x := nI 1) d_Law_law_765 (by decide) ?_
  refine pw_iadd d_Law_law_766 ?_
  refine pw_sload (j := i + 1) d_Law_law_767 (nI_add i 1) (by omega) (by omega) ?_
  refine pw_saload_n d_Law_law_768 rfl rfl ?_
  refine pw_iload d_Law_law_769 rfl ?_
  refine pw_iconst (x := nI 2) d_Law_law_771 (by decide) ?_
  refine pw_iadd d_Law_law_772 ?_
  refine pw_sload (j := i + 2) d_Law_law_773 (nI_add i 2) (by omega) (by omega) ?_
  refine pw_callV (R' := zroom 4 0 0) (P' := false) [.int (G.xs (i + 1)), .int (G.xs (i + 2))] (fun q => nomatch q) d_Law_law_774 lk_Law_113 h84 rfl rfl (zac rfl) (Nat.le_of_ble_eq_true rfl) ⟨by decide, by decide, (by show nc + 1 + 0 ≤ 601024; omega), (by show ns + 6 + 0 ≤ 7293000; omega)⟩ (Nat.le_of_ble_eq_true rfl) w2 (fun r h' q => by obtain ⟨t, e, -⟩ := q; exact ⟨_, e⟩) (fun v h3 q => ?_)
  obtain ⟨t, e9, hE3⟩ := q
  cases e9
  refine pw_istore d_Law_law_777 (by decide) (pl' := [some (.retAddr G.b), some (.ref 0), some (.ref 84), some (.ref 104), some (.int (nI i)), some (.int k), some (.int t)]) rfl ?_
  have hM3 := hE3.1
  obtain ⟨⟨fs3, h843⟩, w3⟩ := iM_th (G := G) hM3
  refine pw_aload_n d_Law_law_779 rfl rfl ?_
  refine pw_callV (R' := zroom 0 0 0) (P' := true) [] (fun _ => rfl) d_Law_law_780 lk_Law_73 h843 rfl rfl (zac rfl) (by decide) ⟨by decide, by decide, (by show nc + 1 + 0 + 0 ≤ 601024; omega), (by show ns + 6 + 0 + 0 ≤ 7293000; omega)⟩ (Nat.le_of_ble_eq_true rfl) w3 zr_ret (fun v h4 q => ?_)
  obtain ⟨e9, rfl⟩ := q
  cases e9
  refine pw_iload d_Law_law_783 rfl ?_
  refine pw_icmp_eq 790 d_Law_law_785 (by decide) (fun _ => ?_) (fun q => absurd rfl q)
  refine pw_iload d_Law_law_790 rfl ?_
  refine pw_if_ne 814 d_Law_law_792 (by decide) (fun q0 => ?_) (fun q0 => ?_)
  · refine pw_goto 1079 d_Law_law_814 (by decide) ?_
    exact pw_fg (pw_widen (by show nc + 1 + 0 + 0 ≤ nc + 1; omega) (by show ns + 6 + 0 + 0 ≤ ns + 6; omega) (kk _ (iE_N hE3)))
  · obtain ⟨fl, hO3, hv3⟩ := hE3.2
    have hv := hv3 q0
    refine pw_aload_n d_Law_law_795 rfl rfl ?_
    refine pw_iconst (x := 0) d_Law_law_796 (by decide) ?_
    refine pw_laload d_Law_law_797 hO3 rfl zin0 ?_
    refine pw_iload d_Law_law_798 rfl ?_
    refine pw_if_eq 807 d_Law_law_800 (by decide) (fun q1 => ?_) (fun q1 => ?_)
    · refine pw_lconst (x := 0) d_Law_law_807 (by decide) ?_
      refine pw_lcmp d_Law_law_808 ?_
      refine pw_if_eq 814 d_Law_law_809 (by decide) (fun _ => ?_) (fun q => absurd (by rw [show fl (Int32.toNatClampNeg 0) = 0 from hv.trans (if_pos q1)]; exact lgc_eq _) q)
      refine pw_goto 1079 d_Law_law_814 (by decide) ?_
      exact pw_fg (pw_widen (by show nc + 1 + 0 + 0 ≤ nc + 1; omega) (by show ns + 6 + 0 + 0 ≤ ns + 6; omega) (kk _ (iE_N hE3)))
    · refine pw_lconst (x := 1) d_Law_law_803 (by decide) ?_
      refine pw_goto 808 d_Law_law_804 (by decide) ?_
      refine pw_lcmp d_Law_law_808 ?_
      refine pw_if_eq 814 d_Law_law_809 (by decide) (fun _ => ?_) (fun q => absurd (by rw [show fl (Int32.toNatClampNeg 0) = 1 from hv.trans (if_neg q1)]; exact lgc_eq _) q)
      refine pw_goto 1079 d_Law_law_814 (by decide) ?_
      exact pw_fg (pw_widen (by show nc + 1 + 0 + 0 ≤ nc + 1; omega) (by show ns + 6 + 0 + 0 ≤ ns + 6; omega) (kk _ (iE_N hE3)))
set_option maxRecDepth 20000 in
set_option maxHeartbeats 2000000 in
theorem k_take {G : zG} {h : zH} {i nc ns : Nat} (hN : iN h) (hL : G.L ≤ 2563) (hi : i + 5 ≤ G.L) (hnc : nc + 1 ≤ 601024) (hns : ns + 6 ≤ 7293000) (kk : ∀ h', iN h' → PW G M_Law_law room_1 false (fun r _ => r = .inl (some (.int 1))) 1079 [some (.retAddr G.b), some (.ref 0), some (.ref 84), some (.ref 104), some (.int (nI i)), none, none] [] h' (nc + 1) (ns + 6)) : PW G M_Law_law room_1 false (fun r _ => r = .inl (some (.int 1))) 817 [some (.retAddr G.b), some (.ref 0), some (.ref 84), some (.ref 104), some (.int (nI i)), none, none] [] h nc ns := by
  obtain ⟨D9, w1, hE⟩ := e_take (G := G) hN (a := G.xs (i + 1))
  refine pw_aload_n d_Law_law_817 rfl rfl ?_
  refine pw_saload_n d_Law_law_818 rfl rfl ?_
  refine pw_iload d_Law_law_819 rfl ?_
  refine pw_iconst (x := nI 1) d_Law_law_821 (by decide) ?_
  refine pw_iadd d_Law_law_822 ?_
  refine pw_sload (j := i + 1) d_Law_law_823 (nI_add i 1) (by omega) (by omega) ?_
  refine pw_aload_n d_Law_law_824 rfl rfl ?_
  refine pw_callSW (R' := zroom 8 1 6) (P' := false) [.ref 0, .int (G.xs (i + 1)), .ref 104] (fun q => nomatch q) d_Law_law_825 lw_Law_114 rfl (zchk_i rfl rfl rfl ⟨by decide, by decide, (by show nc + 1 ≤ 601024; omega), (by show ns + 6 ≤ 7293000; omega)⟩) w1 (fun r h' q => by obtain ⟨k, e, -⟩ := q; exact ⟨_, e⟩) (fun v h2 q => ?_)
  obtain ⟨k, e9, hD⟩ := q
  cases e9
  obtain ⟨⟨fs, h84⟩, w2⟩ := hE k h2 hD
  refine pw_istore d_Law_law_828 (by decide) (pl' := [some (.retAddr G.b), some (.ref 0), some (.ref 84), some (.ref 104), some (.int (nI i)), some (.int k), none]) rfl ?_
  refine pw_aload_n d_Law_law_830 rfl rfl ?_
  refine pw_saload_n d_Law_law_831 rfl rfl ?_
  refine pw_iload d_Law_law_832 rfl ?_
  refine pw_iconst (x := nI 1) d_Law_law_834 (by decide) ?_
  refine pw_iadd d_Law_law_835 ?_
  refine pw_sload (j := i + 1) d_Law_law_836 (nI_add i 1) (by omega) (by omega) ?_
  refine pw_callV (R' := zroom 5 0 0) (P' := false) [.int (G.xs (i + 1))] (fun q => nomatch q) d_Law_law_837 lk_Law_117 h84 rfl rfl (zac rfl) (Nat.le_of_ble_eq_true rfl) ⟨by decide, by decide, (by show nc + 1 + 0 ≤ 601024; omega), (by show ns + 6 + 0 ≤ 7293000; omega)⟩ (Nat.le_of_ble_eq_true rfl) w2 (fun r h' q => by obtain ⟨t, e, -⟩ := q; exact ⟨_, e⟩) (fun v h3 q => ?_)
  obtain ⟨t, e9, hE3⟩ := q
  cases e9
  refine pw_istore d_Law_law_840 (by decide) (pl' := [some (.retAddr G.b), some (.ref 0), some (.ref 84), some (.ref 104), some (.int (nI i)), some (.int k), some (.int t)]) rfl ?_
  have hM3 := hE3.1
  obtain ⟨⟨fs3, h843⟩, w3⟩ := iM_th (G := G) hM3
  refine pw_aload_n d_Law_law_842 rfl rfl ?_
  refine pw_callV (R' := zroom 0 0 0) (P' := true) [] (fun _ => rfl) d_Law_law_843 lk_Law_73 h843 rfl rfl (zac rfl) (by decide) ⟨by decide, by decide, (by show nc + 1 + 0 + 0 ≤ 601024; omega), (by show ns + 6 + 0 + 0 ≤ 7293000; omega)⟩ (Nat.le_of_ble_eq_true rfl) w3 zr_ret (fun v h4 q => ?_)
  obtain ⟨e9, rfl⟩ := q
  cases e9
  refine pw_iload d_Law_law_846 rfl ?_
  refine pw_icmp_eq 853 d_Law_law_848 (by decide) (fun _ => ?_) (fun q => absurd rfl q)
  refine pw_iload d_Law_law_853 rfl ?_
  refine pw_if_ne 870 d_Law_law_855 (by decide) (fun q0 => ?_) (fun q0 => ?_)
  · refine pw_goto 1079 d_Law_law_870 (by decide) ?_
    exact pw_fg (pw_widen (by show nc + 1 + 0 + 0 ≤ nc + 1; omega) (by show ns + 6 + 0 + 0 ≤ ns + 6; omega) (kk _ (iE_N hE3)))
  · obtain ⟨fl, hO3, hv3⟩ := hE3.2
    have hv := hv3 q0
    refine pw_aload_n d_Law_law_858 rfl rfl ?_
    refine pw_iconst (x := 0) d_Law_law_859 (by decide) ?_
    refine pw_laload d_Law_law_860 hO3 rfl zin0 ?_
    refine pw_iload d_Law_law_861 rfl ?_
    refine pw_i2l d_Law_law_863 ?_
    refine pw_lcmp d_Law_law_864 ?_
    refine pw_if_eq 870 d_Law_law_865 (by decide) (fun _ => ?_) (fun q => absurd (by rw [show fl (Int32.toNatClampNeg 0) = t.toInt64 from hv]; exact lgc_eq _) q)
    refine pw_goto 1079 d_Law_law_870 (by decide) ?_
    exact pw_fg (pw_widen (by show nc + 1 + 0 + 0 ≤ nc + 1; omega) (by show ns + 6 + 0 + 0 ≤ ns + 6; omega) (kk _ (iE_N hE3)))
set_option maxRecDepth 20000 in
set_option maxHeartbeats 2000000 in
theorem k_taken {G : zG} {h : zH} {i nc ns : Nat} (hN : iN h) (hL : G.L ≤ 2563) (hi : i + 5 ≤ G.L) (hnc : nc + 1 ≤ 601024) (hns : ns + 6 ≤ 7293000) (kk : ∀ h', iN h' → PW G M_Law_law room_1 false (fun r _ => r = .inl (some (.int 1))) 1079 [some (.retAddr G.b), some (.ref 0), some (.ref 84), some (.ref 104), some (.int (nI i)), none, none] [] h' (nc + 1) (ns + 6)) : PW G M_Law_law room_1 false (fun r _ => r = .inl (some (.int 1))) 886 [some (.retAddr G.b), some (.ref 0), some (.ref 84), some (.ref 104), some (.int (nI i)), none, none] [] h nc ns := by
  obtain ⟨D9, w1, hE⟩ := e_taken (G := G) hN (a := G.xs (i + 1)) (b := G.xs (i + 2))
  refine pw_aload_n d_Law_law_886 rfl rfl ?_
  refine pw_saload_n d_Law_law_887 rfl rfl ?_
  refine pw_iload d_Law_law_888 rfl ?_
  refine pw_iconst (x := nI 1) d_Law_law_890 (by decide) ?_
  refine pw_iadd d_Law_law_891 ?_
  refine pw_sload (j := i + 1) d_Law_law_892 (nI_add i 1) (by omega) (by omega) ?_
  refine pw_saload_n d_Law_law_893 rfl rfl ?_
  refine pw_iload d_Law_law_894 rfl ?_
  refine pw_iconst (x := nI 2) d_Law_law_896 (by decide) ?_
  refine pw_iadd d_Law_law_897 ?_
  refine pw_sload (j := i + 2) d_Law_law_898 (nI_add i 2) (by omega) (by omega) ?_
  refine pw_aload_n d_Law_law_899 rfl rfl ?_
  refine pw_callSW (R' := zroom 8 1 6) (P' := false) [.ref 0, .int (G.xs (i + 1)), .int (G.xs (i + 2)), .ref 104] (fun q => nomatch q) d_Law_law_900 lw_Law_122 rfl (zchk_i rfl rfl rfl ⟨by decide, by decide, (by show nc + 1 ≤ 601024; omega), (by show ns + 6 ≤ 7293000; omega)⟩) w1 (fun r h' q => by obtain ⟨k, e, -⟩ := q; exact ⟨_, e⟩) (fun v h2 q => ?_)
  obtain ⟨k, e9, hD⟩ := q
  cases e9
  obtain ⟨⟨fs, h84⟩, w2⟩ := hE k h2 hD
  refine pw_istore d_Law_law_903 (by decide) (pl' := [some (.retAddr G.b), some (.ref 0), some (.ref 84), some (.ref 104), some (.int (nI i)), some (.int k), none]) rfl ?_
  refine pw_aload_n d_Law_law_905 rfl rfl ?_
  refine pw_saload_n d_Law_law_906 rfl rfl ?_
  refine pw_iload d_Law_law_907 rfl ?_
  refine pw_iconst (x := nI 1) d_Law_law_909 (by decide) ?_
  refine pw_iadd d_Law_law_910 ?_
  refine pw_sload (j := i + 1) d_Law_law_911 (nI_add i 1) (by omega) (by omega) ?_
  refine pw_saload_n d_Law_law_912 rfl rfl ?_
  refine pw_iload d_Law_law_913 rfl ?_
  refine pw_iconst (x := nI 2) d_Law_law_915 (by decide) ?_
  refine pw_iadd d_Law_law_916 ?_
  refine pw_sload (j := i + 2) d_Law_law_917 (nI_add i 2) (by omega) (by omega) ?_
  refine pw_callV (R' := zroom 1 0 0) (P' := false) [.int (G.xs (i + 1)), .int (G.xs (i + 2))] (fun q => nomatch q) d_Law_law_918 lk_Law_124 h84 rfl rfl (zac rfl) (Nat.le_of_ble_eq_true rfl) ⟨by decide, by decide, (by show nc + 1 + 0 ≤ 601024; omega), (by show ns + 6 + 0 ≤ 7293000; omega)⟩ (Nat.le_of_ble_eq_true rfl) w2 (fun r h' q => by obtain ⟨t, e, -⟩ := q; exact ⟨_, e⟩) (fun v h3 q => ?_)
  obtain ⟨t, e9, hE3⟩ := q
  cases e9
  refine pw_istore d_Law_law_921 (by decide) (pl' := [some (.retAddr G.b), some (.ref 0), some (.ref 84), some (.ref 104), some (.int (nI i)), some (.int k), some (.int t)]) rfl ?_
  have hM3 := hE3.1
  obtain ⟨⟨fs3, h843⟩, w3⟩ := iM_th (G := G) hM3
  refine pw_aload_n d_Law_law_923 rfl rfl ?_
  refine pw_callV (R' := zroom 0 0 0) (P' := true) [] (fun _ => rfl) d_Law_law_924 lk_Law_73 h843 rfl rfl (zac rfl) (by decide) ⟨by decide, by decide, (by show nc + 1 + 0 + 0 ≤ 601024; omega), (by show ns + 6 + 0 + 0 ≤ 7293000; omega)⟩ (Nat.le_of_ble_eq_true rfl) w3 zr_ret (fun v h4 q => ?_)
  obtain ⟨e9, rfl⟩ := q
  cases e9
  refine pw_iload d_Law_law_927 rfl ?_
  refine pw_icmp_eq 934 d_Law_law_929 (by decide) (fun _ => ?_) (fun q => absurd rfl q)
  refine pw_iload d_Law_law_934 rfl ?_
  refine pw_if_ne 951 d_Law_law_936 (by decide) (fun q0 => ?_) (fun q0 => ?_)
  · refine pw_goto 1079 d_Law_law_951 (by decide) ?_
    exact pw_fg (pw_widen (by show nc + 1 + 0 + 0 ≤ nc + 1; omega) (by show ns + 6 + 0 + 0 ≤ ns + 6; omega) (kk _ (iE_N hE3)))
  · obtain ⟨fl, hO3, hv3⟩ := hE3.2
    have hv := hv3 q0
    refine pw_aload_n d_Law_law_939 rfl rfl ?_
    refine pw_iconst (x := 0) d_Law_law_940 (by decide) ?_
    refine pw_laload d_Law_law_941 hO3 rfl zin0 ?_
    refine pw_iload d_Law_law_942 rfl ?_
    refine pw_i2l d_Law_law_944 ?_
    refine pw_lcmp d_Law_law_945 ?_
    refine pw_if_eq 951 d_Law_law_946 (by decide) (fun _ => ?_) (fun q => absurd (by rw [show fl (Int32.toNatClampNeg 0) = t.toInt64 from hv]; exact lgc_eq _) q)
    refine pw_goto 1079 d_Law_law_951 (by decide) ?_
    exact pw_fg (pw_widen (by show nc + 1 + 0 + 0 ≤ nc + 1; omega) (by show ns + 6 + 0 + 0 ≤ ns + 6; omega) (kk _ (iE_N hE3)))
set_option maxRecDepth 20000 in
set_option maxHeartbeats 2000000 in
theorem k_mode {G : zG} {h : zH} {i nc ns : Nat} (hN : iN h) (hL : G.L ≤ 2563) (hi : i + 5 ≤ G.L) (hnc : nc + 1 ≤ 601024) (hns : ns + 6 ≤ 7293000) (kk : ∀ h', iN h' → PW G M_Law_law room_1 false (fun r _ => r = .inl (some (.int 1))) 1079 [some (.retAddr G.b), some (.ref 0), some (.ref 84), some (.ref 104), some (.int (nI i)), none, none] [] h' (nc + 1) (ns + 6)) : PW G M_Law_law room_1 false (fun r _ => r = .inl (some (.int 1))) 967 [some (.retAddr G.b), some (.ref 0), some (.ref 84), some (.ref 104), some (.int (nI i)), none, none] [] h nc ns := by
  obtain ⟨D9, w1, hE⟩ := e_mode (G := G) hN (a := G.xs (i + 1))
  refine pw_aload_n d_Law_law_967 rfl rfl ?_
  refine pw_saload_n d_Law_law_968 rfl rfl ?_
  refine pw_iload d_Law_law_969 rfl ?_
  refine pw_iconst (x := nI 1) d_Law_law_971 (by decide) ?_
  refine pw_iadd d_Law_law_972 ?_
  refine pw_sload (j := i + 1) d_Law_law_973 (nI_add i 1) (by omega) (by omega) ?_
  refine pw_aload_n d_Law_law_974 rfl rfl ?_
  refine pw_callSW (R' := zroom 8 1 6) (P' := false) [.ref 0, .int (G.xs (i + 1)), .ref 104] (fun q => nomatch q) d_Law_law_975 lw_Law_129 rfl (zchk_i rfl rfl rfl ⟨by decide, by decide, (by show nc + 1 ≤ 601024; omega), (by show ns + 6 ≤ 7293000; omega)⟩) w1 (fun r h' q => by obtain ⟨k, e, -⟩ := q; exact ⟨_, e⟩) (fun v h2 q => ?_)
  obtain ⟨k, e9, hD⟩ := q
  cases e9
  obtain ⟨⟨fs, h84⟩, w2⟩ := hE k h2 hD
  refine pw_istore d_Law_law_978 (by decide) (pl' := [some (.retAddr G.b), some (.ref 0), some (.ref 84), some (.ref 104), some (.int (nI i)), some (.int k), none]) rfl ?_
  refine pw_aload_n d_Law_law_980 rfl rfl ?_
  refine pw_saload_n d_Law_law_981 rfl rfl ?_
  refine pw_iload d_Law_law_982 rfl ?_
  refine pw_iconst (x := nI 1) d_Law_law_984 (by decide) ?_
  refine pw_iadd d_Law_law_985 ?_
  refine pw_sload (j := i + 1) d_Law_law_986 (nI_add i 1) (by omega) (by omega) ?_
  refine pw_callV (R' := zroom 4 0 0) (P' := false) [.int (G.xs (i + 1))] (fun q => nomatch q) d_Law_law_987 lk_Law_131 h84 rfl rfl (zac rfl) (Nat.le_of_ble_eq_true rfl) ⟨by decide, by decide, (by show nc + 1 + 0 ≤ 601024; omega), (by show ns + 6 + 0 ≤ 7293000; omega)⟩ (Nat.le_of_ble_eq_true rfl) w2 (fun r h' q => by obtain ⟨t, e, -⟩ := q; exact ⟨_, e⟩) (fun v h3 q => ?_)
  obtain ⟨t, e9, hE3⟩ := q
  cases e9
  refine pw_istore d_Law_law_990 (by decide) (pl' := [some (.retAddr G.b), some (.ref 0), some (.ref 84), some (.ref 104), some (.int (nI i)), some (.int k), some (.int t)]) rfl ?_
  have hM3 := hE3.1
  obtain ⟨⟨fs3, h843⟩, w3⟩ := iM_th (G := G) hM3
  refine pw_aload_n d_Law_law_992 rfl rfl ?_
  refine pw_callV (R' := zroom 0 0 0) (P' := true) [] (fun _ => rfl) d_Law_law_993 lk_Law_73 h843 rfl rfl (zac rfl) (by decide) ⟨by decide, by decide, (by show nc + 1 + 0 + 0 ≤ 601024; omega), (by show ns + 6 + 0 + 0 ≤ 7293000; omega)⟩ (Nat.le_of_ble_eq_true rfl) w3 zr_ret (fun v h4 q => ?_)
  obtain ⟨e9, rfl⟩ := q
  cases e9
  refine pw_iload d_Law_law_996 rfl ?_
  refine pw_icmp_eq 1003 d_Law_law_998 (by decide) (fun _ => ?_) (fun q => absurd rfl q)
  refine pw_iload d_Law_law_1003 rfl ?_
  refine pw_if_ne 1020 d_Law_law_1005 (by decide) (fun q0 => ?_) (fun q0 => ?_)
  · refine pw_goto 1079 d_Law_law_1020 (by decide) ?_
    exact pw_fg (pw_widen (by show nc + 1 + 0 + 0 ≤ nc + 1; omega) (by show ns + 6 + 0 + 0 ≤ ns + 6; omega) (kk _ (iE_N hE3)))
  · obtain ⟨fl, hO3, hv3⟩ := hE3.2
    have hv := hv3 q0
    refine pw_aload_n d_Law_law_1008 rfl rfl ?_
    refine pw_iconst (x := 0) d_Law_law_1009 (by decide) ?_
    refine pw_laload d_Law_law_1010 hO3 rfl zin0 ?_
    refine pw_iload d_Law_law_1011 rfl ?_
    refine pw_i2l d_Law_law_1013 ?_
    refine pw_lcmp d_Law_law_1014 ?_
    refine pw_if_eq 1020 d_Law_law_1015 (by decide) (fun _ => ?_) (fun q => absurd (by rw [show fl (Int32.toNatClampNeg 0) = t.toInt64 from hv]; exact lgc_eq _) q)
    refine pw_goto 1079 d_Law_law_1020 (by decide) ?_
    exact pw_fg (pw_widen (by show nc + 1 + 0 + 0 ≤ nc + 1; omega) (by show ns + 6 + 0 + 0 ≤ ns + 6; omega) (kk _ (iE_N hE3)))
set_option maxRecDepth 20000 in
set_option maxHeartbeats 2000000 in
theorem k_told {G : zG} {h : zH} {i nc ns : Nat} (hN : iN h) (hL : G.L ≤ 2563) (hi : i + 5 ≤ G.L) (hnc : nc + 1 ≤ 601024) (hns : ns + 6 ≤ 7293000) (kk : ∀ h', iN h' → PW G M_Law_law room_1 false (fun r _ => r = .inl (some (.int 1))) 1079 [some (.retAddr G.b), some (.ref 0), some (.ref 84), some (.ref 104), some (.int (nI i)), none, none] [] h' (nc + 1) (ns + 6)) : PW G M_Law_law room_1 false (fun r _ => r = .inl (some (.int 1))) 1023 [some (.retAddr G.b), some (.ref 0), some (.ref 84), some (.ref 104), some (.int (nI i)), none, none] [] h nc ns := by
  obtain ⟨D9, w1, hE⟩ := e_told (G := G) hN (a := G.xs (i + 1))
  refine pw_aload_n d_Law_law_1023 rfl rfl ?_
  refine pw_saload_n d_Law_law_1024 rfl rfl ?_
  refine pw_iload d_Law_law_1025 rfl ?_
  refine pw_iconst (x := nI 1) d_Law_law_1027 (by decide) ?_
  refine pw_iadd d_Law_law_1028 ?_
  refine pw_sload (j := i + 1) d_Law_law_1029 (nI_add i 1) (by omega) (by omega) ?_
  refine pw_aload_n d_Law_law_1030 rfl rfl ?_
  refine pw_callSW (R' := zroom 8 1 6) (P' := false) [.ref 0, .int (G.xs (i + 1)), .ref 104] (fun q => nomatch q) d_Law_law_1031 lw_Law_132 rfl (zchk_i rfl rfl rfl ⟨by decide, by decide, (by show nc + 1 ≤ 601024; omega), (by show ns + 6 ≤ 7293000; omega)⟩) w1 (fun r h' q => by obtain ⟨k, e, -⟩ := q; exact ⟨_, e⟩) (fun v h2 q => ?_)
  obtain ⟨k, e9, hD⟩ := q
  cases e9
  obtain ⟨⟨fs, h84⟩, w2⟩ := hE k h2 hD
  refine pw_istore d_Law_law_1034 (by decide) (pl' := [some (.retAddr G.b), some (.ref 0), some (.ref 84), some (.ref 104), some (.int (nI i)), some (.int k), none]) rfl ?_
  refine pw_aload_n d_Law_law_1036 rfl rfl ?_
  refine pw_saload_n d_Law_law_1037 rfl rfl ?_
  refine pw_iload d_Law_law_1038 rfl ?_
  refine pw_iconst (x := nI 1) d_Law_law_1040 (by decide) ?_
  refine pw_iadd d_Law_law_1041 ?_
  refine pw_sload (j := i + 1) d_Law_law_1042 (nI_add i 1) (by omega) (by omega) ?_
  refine pw_callV (R' := zroom 1 0 0) (P' := false) [.int (G.xs (i + 1))] (fun q => nomatch q) d_Law_law_1043 lk_Law_134 h84 rfl rfl (zac rfl) (Nat.le_of_ble_eq_true rfl) ⟨by decide, by decide, (by show nc + 1 + 0 ≤ 601024; omega), (by show ns + 6 + 0 ≤ 7293000; omega)⟩ (Nat.le_of_ble_eq_true rfl) w2 (fun r h' q => by obtain ⟨t, e, -⟩ := q; exact ⟨_, e⟩) (fun v h3 q => ?_)
  obtain ⟨t, e9, hE3⟩ := q
  cases e9
  refine pw_istore d_Law_law_1046 (by decide) (pl' := [some (.retAddr G.b), some (.ref 0), some (.ref 84), some (.ref 104), some (.int (nI i)), some (.int k), some (.int t)]) rfl ?_
  have hM3 := hE3.1
  obtain ⟨⟨fs3, h843⟩, w3⟩ := iM_th (G := G) hM3
  refine pw_aload_n d_Law_law_1048 rfl rfl ?_
  refine pw_callV (R' := zroom 0 0 0) (P' := true) [] (fun _ => rfl) d_Law_law_1049 lk_Law_73 h843 rfl rfl (zac rfl) (by decide) ⟨by decide, by decide, (by show nc + 1 + 0 + 0 ≤ 601024; omega), (by show ns + 6 + 0 + 0 ≤ 7293000; omega)⟩ (Nat.le_of_ble_eq_true rfl) w3 zr_ret (fun v h4 q => ?_)
  obtain ⟨e9, rfl⟩ := q
  cases e9
  refine pw_iload d_Law_law_1052 rfl ?_
  refine pw_icmp_eq 1059 d_Law_law_1054 (by decide) (fun _ => ?_) (fun q => absurd rfl q)
  refine pw_iload d_Law_law_1059 rfl ?_
  refine pw_if_ne 1076 d_Law_law_1061 (by decide) (fun q0 => ?_) (fun q0 => ?_)
  · refine pw_goto 1079 d_Law_law_1076 (by decide) ?_
    exact pw_fg (pw_widen (by show nc + 1 + 0 + 0 ≤ nc + 1; omega) (by show ns + 6 + 0 + 0 ≤ ns + 6; omega) (kk _ (iE_N hE3)))
  · obtain ⟨fl, hO3, hv3⟩ := hE3.2
    have hv := hv3 q0
    refine pw_aload_n d_Law_law_1064 rfl rfl ?_
    refine pw_iconst (x := 0) d_Law_law_1065 (by decide) ?_
    refine pw_laload d_Law_law_1066 hO3 rfl zin0 ?_
    refine pw_iload d_Law_law_1067 rfl ?_
    refine pw_i2l d_Law_law_1069 ?_
    refine pw_lcmp d_Law_law_1070 ?_
    refine pw_if_eq 1076 d_Law_law_1071 (by decide) (fun _ => ?_) (fun q => absurd (by rw [show fl (Int32.toNatClampNeg 0) = t.toInt64 from hv]; exact lgc_eq _) q)
    refine pw_goto 1079 d_Law_law_1076 (by decide) ?_
    exact pw_fg (pw_widen (by show nc + 1 + 0 + 0 ≤ nc + 1; omega) (by show ns + 6 + 0 + 0 ≤ ns + 6; omega) (kk _ (iE_N hE3)))
set_option maxRecDepth 20000 in
set_option maxHeartbeats 2000000 in
theorem k_unjoint {G : zG} {h : zH} {i nc ns : Nat} (hN : iN h) (hL : G.L ≤ 2563) (hi : i + 5 ≤ G.L) (hnc : nc + 1 ≤ 601024) (hns : ns + 6 ≤ 7293000) (kk : ∀ h', iN h' → PW G M_Law_law room_1 false (fun r _ => r = .inl (some (.int 1))) 1079 [some (.retAddr G.b), some (.ref 0), some (.ref 84), some (.ref 104), some (.int (nI i)), none, none] [] h' (nc + 1) (ns + 6)) : PW G M_Law_law room_1 false (fun r _ => r = .inl (some (.int 1))) 244 [some (.retAddr G.b), some (.ref 0), some (.ref 84), some (.ref 104), some (.int (nI i)), none, none] [] h nc ns := by
  obtain ⟨fs, h0⟩ := iN_0 hN
  obtain ⟨R1, P1, D9, ⟨a1, a2, a3, a4⟩, w1, hE⟩ := e_unjoint (G := G) hN
  refine pw_aload_n d_Law_law_244 rfl rfl ?_
  refine pw_callV (R' := R1) (P' := P1) [] (fun q => nomatch q) d_Law_law_245 lk_Law_77 h0 rfl rfl (zac rfl) (Nat.le_of_ble_eq_true rfl) ⟨by show R1.frames + 1 ≤ 11; omega, by show 8 + (1 + 11) + R1.locals ≤ 400; omega, by show nc + R1.cells ≤ 601024; omega, by show ns + R1.slots ≤ 7293000; omega⟩ (Nat.le_of_ble_eq_true rfl) w1 (fun r h' q => by obtain ⟨k, e, -⟩ := q; exact ⟨_, e⟩) (fun v h2 q => ?_)
  obtain ⟨t, e9, hD⟩ := q
  cases e9
  obtain ⟨⟨fs2, h84⟩, R2, ⟨b1, b2, b3, b4⟩, w2⟩ := hE t h2 hD
  refine pw_aload_n d_Law_law_248 rfl rfl ?_
  refine pw_callV (R' := R2) (P' := false) [] (fun q => nomatch q) d_Law_law_249 lk_Law_80 h84 rfl rfl (zac rfl) (Nat.le_of_ble_eq_true rfl) ⟨by show R2.frames + 1 ≤ 11; omega, by show 8 + (1 + 11) + R2.locals ≤ 400; omega, by show nc + R1.cells + R2.cells ≤ 601024; omega, by show ns + R1.slots + R2.slots ≤ 7293000; omega⟩ (Nat.le_of_ble_eq_true rfl) w2 (fun r h' q => by obtain ⟨k, e, -⟩ := q; exact ⟨_, e⟩) (fun v h3 q => ?_)
  obtain ⟨t9, e9, rfl, hN3⟩ := q
  cases e9
  refine pw_icmp_eq 1079 d_Law_law_252 (by decide) (fun _ => ?_) (fun q => absurd rfl q)
  exact pw_widen (by omega) (by omega) (kk _ hN3)
set_option maxRecDepth 20000 in
set_option maxHeartbeats 2000000 in
theorem k_blocks {G : zG} {h : zH} {i nc ns : Nat} (hN : iN h) (hL : G.L ≤ 2563) (hi : i + 5 ≤ G.L) (hnc : nc + 1 ≤ 601024) (hns : ns + 6 ≤ 7293000) (kk : ∀ h', iN h' → PW G M_Law_law room_1 false (fun r _ => r = .inl (some (.int 1))) 1079 [some (.retAddr G.b), some (.ref 0), some (.ref 84), some (.ref 104), some (.int (nI i)), none, none] [] h' (nc + 1) (ns + 6)) : PW G M_Law_law room_1 false (fun r _ => r = .inl (some (.int 1))) 488 [some (.retAddr G.b), some (.ref 0), some (.ref 84), some (.ref 104), some (.int (nI i)), none, none] [] h nc ns := by
  obtain ⟨fs, h0⟩ := iN_0 hN
  obtain ⟨R1, P1, D9, ⟨a1, a2, a3, a4⟩, w1, hE⟩ := e_blocks (G := G) hN
  refine pw_aload_n d_Law_law_488 rfl rfl ?_
  refine pw_callV (R' := R1) (P' := P1) [] (fun q => nomatch q) d_Law_law_489 lk_Law_93 h0 rfl rfl (zac rfl) (Nat.le_of_ble_eq_true rfl) ⟨by show R1.frames + 1 ≤ 11; omega, by show 8 + (1 + 11) + R1.locals ≤ 400; omega, by show nc + R1.cells ≤ 601024; omega, by show ns + R1.slots ≤ 7293000; omega⟩ (Nat.le_of_ble_eq_true rfl) w1 (fun r h' q => by obtain ⟨k, e, -⟩ := q; exact ⟨_, e⟩) (fun v h2 q => ?_)
  obtain ⟨t, e9, hD⟩ := q
  cases e9
  obtain ⟨⟨fs2, h84⟩, R2, ⟨b1, b2, b3, b4⟩, w2⟩ := hE t h2 hD
  refine pw_aload_n d_Law_law_492 rfl rfl ?_
  refine pw_callV (R' := R2) (P' := false) [] (fun q => nomatch q) d_Law_law_493 lk_Law_96 h84 rfl rfl (zac rfl) (Nat.le_of_ble_eq_true rfl) ⟨by show R2.frames + 1 ≤ 11; omega, by show 8 + (1 + 11) + R2.locals ≤ 400; omega, by show nc + R1.cells + R2.cells ≤ 601024; omega, by show ns + R1.slots + R2.slots ≤ 7293000; omega⟩ (Nat.le_of_ble_eq_true rfl) w2 (fun r h' q => by obtain ⟨k, e, -⟩ := q; exact ⟨_, e⟩) (fun v h3 q => ?_)
  obtain ⟨t9, e9, rfl, hN3⟩ := q
  cases e9
  refine pw_icmp_eq 1079 d_Law_law_496 (by decide) (fun _ => ?_) (fun q => absurd rfl q)
  exact pw_widen (by omega) (by omega) (kk _ hN3)
set_option maxRecDepth 20000 in
set_option maxHeartbeats 2000000 in
theorem k_find {G : zG} {h : zH} {i nc ns : Nat} (hN : iN h) (hL : G.L ≤ 2563) (hi : i + 5 ≤ G.L) (hnc : nc + 1 ≤ 601024) (hns : ns + 6 ≤ 7293000) (kk : ∀ h', iN h' → PW G M_Law_law room_1 false (fun r _ => r = .inl (some (.int 1))) 1079 [some (.retAddr G.b), some (.ref 0), some (.ref 84), some (.ref 104), some (.int (nI i)), none, none] [] h' (nc + 1) (ns + 6)) : PW G M_Law_law room_1 false (fun r _ => r = .inl (some (.int 1))) 649 [some (.retAddr G.b), some (.ref 0), some (.ref 84), some (.ref 104), some (.int (nI i)), none, none] [] h nc ns := by
  obtain ⟨fs, h0⟩ := iN_0 hN
  obtain ⟨R1, P1, D9, ⟨a1, a2, a3, a4⟩, w1, hE⟩ := e_find (G := G) hN (a := G.xs (i + 1))
  refine pw_aload_n d_Law_law_649 rfl rfl ?_
  refine pw_saload_n d_Law_law_650 rfl rfl ?_
  refine pw_iload d_Law_law_651 rfl ?_
  refine pw_iconst (x := nI 1) d_Law_law_653 (by decide) ?_
  refine pw_iadd d_Law_law_654 ?_
  refine pw_sload (j := i + 1) d_Law_law_655 (nI_add i 1) (by omega) (by omega) ?_
  refine pw_callV (R' := R1) (P' := P1) [.int (G.xs (i + 1))] (fun q => nomatch q) d_Law_law_656 lk_Law_104 h0 rfl rfl (zac rfl) (Nat.le_of_ble_eq_true rfl) ⟨by show R1.frames + 1 ≤ 11; omega, by show 8 + (2 + 11) + R1.locals ≤ 400; omega, by show nc + R1.cells ≤ 601024; omega, by show ns + R1.slots ≤ 7293000; omega⟩ (Nat.le_of_ble_eq_true rfl) w1 (fun r h' q => by obtain ⟨k, e, -⟩ := q; exact ⟨_, e⟩) (fun v h2 q => ?_)
  obtain ⟨t, e9, hD⟩ := q
  cases e9
  obtain ⟨⟨fs2, h84⟩, R2, ⟨b1, b2, b3, b4⟩, w2⟩ := hE t h2 hD
  refine pw_aload_n d_Law_law_659 rfl rfl ?_
  refine pw_saload_n d_Law_law_660 rfl rfl ?_
  refine pw_iload d_Law_law_661 rfl ?_
  refine pw_iconst (x := nI 1) d_Law_law_663 (by decide) ?_
  refine pw_iadd d_Law_law_664 ?_
  refine pw_sload (j := i + 1) d_Law_law_665 (nI_add i 1) (by omega) (by omega) ?_
  refine pw_callV (R' := R2) (P' := false) [.int (G.xs (i + 1))] (fun q => nomatch q) d_Law_law_666 lk_Law_107 h84 rfl rfl (zac rfl) (Nat.le_of_ble_eq_true rfl) ⟨by show R2.frames + 1 ≤ 11; omega, by show 8 + (3 + 11) + R2.locals ≤ 400; omega, by show nc + R1.cells + R2.cells ≤ 601024; omega, by show ns + R1.slots + R2.slots ≤ 7293000; omega⟩ (Nat.le_of_ble_eq_true rfl) w2 (fun r h' q => by obtain ⟨k, e, -⟩ := q; exact ⟨_, e⟩) (fun v h3 q => ?_)
  obtain ⟨t9, e9, rfl, hN3⟩ := q
  cases e9
  refine pw_icmp_eq 1079 d_Law_law_669 (by decide) (fun _ => ?_) (fun q => absurd rfl q)
  exact pw_widen (by omega) (by omega) (kk _ hN3)
set_option maxRecDepth 20000 in
set_option maxHeartbeats 2000000 in
theorem k_order {G : zG} {h : zH} {i nc ns : Nat} (hN : iN h) (hL : G.L ≤ 2563) (hi : i + 5 ≤ G.L) (hnc : nc + 1 ≤ 601024) (hns : ns + 6 ≤ 7293000) (kk : ∀ h', iN h' → PW G M_Law_law room_1 false (fun r _ => r = .inl (some (.int 1))) 1079 [some (.retAddr G.b), some (.ref 0), some (.ref 84), some (.ref 104), some (.int (nI i)), none, none] [] h' (nc + 1) (ns + 6)) : PW G M_Law_law room_1 false (fun r _ => r = .inl (some (.int 1))) 873 [some (.retAddr G.b), some (.ref 0), some (.ref 84), some (.ref 104), some (.int (nI i)), none, none] [] h nc ns := by
  obtain ⟨fs, h0⟩ := iN_0 hN
  obtain ⟨R1, P1, D9, ⟨a1, a2, a3, a4⟩, w1, hE⟩ := e_order (G := G) hN
  refine pw_aload_n d_Law_law_873 rfl rfl ?_
  refine pw_callV (R' := R1) (P' := P1) [] (fun q => nomatch q) d_Law_law_874 lk_Law_118 h0 rfl rfl (zac rfl) (Nat.le_of_ble_eq_true rfl) ⟨by show R1.frames + 1 ≤ 11; omega, by show 8 + (2 + 11) + R1.locals ≤ 400; omega, by show nc + R1.cells ≤ 601024; omega, by show ns + R1.slots ≤ 7293000; omega⟩ (Nat.le_of_ble_eq_true rfl) w1 (fun r h' q => by obtain ⟨k, e, -⟩ := q; exact ⟨_, e⟩) (fun v h2 q => ?_)
  obtain ⟨t, e9, hD⟩ := q
  cases e9
  obtain ⟨⟨fs2, h84⟩, R2, ⟨b1, b2, b3, b4⟩, w2⟩ := hE t h2 hD
  refine pw_aload_n d_Law_law_877 rfl rfl ?_
  refine pw_callV (R' := R2) (P' := false) [] (fun q => nomatch q) d_Law_law_878 lk_Law_121 h84 rfl rfl (zac rfl) (Nat.le_of_ble_eq_true rfl) ⟨by show R2.frames + 1 ≤ 11; omega, by show 8 + (3 + 11) + R2.locals ≤ 400; omega, by show nc + R1.cells + R2.cells ≤ 601024; omega, by show ns + R1.slots + R2.slots ≤ 7293000; omega⟩ (Nat.le_of_ble_eq_true rfl) w2 (fun r h' q => by obtain ⟨k, e, -⟩ := q; exact ⟨_, e⟩) (fun v h3 q => ?_)
  obtain ⟨t9, e9, rfl, hN3⟩ := q
  cases e9
  refine pw_icmp_eq 1079 d_Law_law_881 (by decide) (fun _ => ?_) (fun q => absurd rfl q)
  exact pw_widen (by omega) (by omega) (kk _ hN3)
set_option maxRecDepth 20000 in
set_option maxHeartbeats 2000000 in
theorem k_back {G : zG} {h : zH} {i nc ns : Nat} (hN : iN h) (hL : G.L ≤ 2563) (hi : i + 5 ≤ G.L) (hnc : nc + 1 ≤ 601024) (hns : ns + 6 ≤ 7293000) (kk : ∀ h', iN h' → PW G M_Law_law room_1 false (fun r _ => r = .inl (some (.int 1))) 1079 [some (.retAddr G.b), some (.ref 0), some (.ref 84), some (.ref 104), some (.int (nI i)), none, none] [] h' (nc + 1) (ns + 6)) : PW G M_Law_law room_1 false (fun r _ => r = .inl (some (.int 1))) 954 [some (.retAddr G.b), some (.ref 0), some (.ref 84), some (.ref 104), some (.int (nI i)), none, none] [] h nc ns := by
  obtain ⟨fs, h0⟩ := iN_0 hN
  obtain ⟨R1, P1, D9, ⟨a1, a2, a3, a4⟩, w1, hE⟩ := e_back (G := G) hN
  refine pw_aload_n d_Law_law_954 rfl rfl ?_
  refine pw_callV (R' := R1) (P' := P1) [] (fun q => nomatch q) d_Law_law_955 lk_Law_125 h0 rfl rfl (zac rfl) (Nat.le_of_ble_eq_true rfl) ⟨by show R1.frames + 1 ≤ 11; omega, by show 8 + (2 + 11) + R1.locals ≤ 400; omega, by show nc + R1.cells ≤ 601024; omega, by show ns + R1.slots ≤ 7293000; omega⟩ (Nat.le_of_ble_eq_true rfl) w1 (fun r h' q => by obtain ⟨k, e, -⟩ := q; exact ⟨_, e⟩) (fun v h2 q => ?_)
  obtain ⟨t, e9, hD⟩ := q
  cases e9
  obtain ⟨⟨fs2, h84⟩, R2, ⟨b1, b2, b3, b4⟩, w2⟩ := hE t h2 hD
  refine pw_aload_n d_Law_law_958 rfl rfl ?_
  refine pw_callV (R' := R2) (P' := false) [] (fun q => nomatch q) d_Law_law_959 lk_Law_128 h84 rfl rfl (zac rfl) (Nat.le_of_ble_eq_true rfl) ⟨by show R2.frames + 1 ≤ 11; omega, by show 8 + (3 + 11) + R2.locals ≤ 400; omega, by show nc + R1.cells + R2.cells ≤ 601024; omega, by show ns + R1.slots + R2.slots ≤ 7293000; omega⟩ (Nat.le_of_ble_eq_true rfl) w2 (fun r h' q => by obtain ⟨k, e, -⟩ := q; exact ⟨_, e⟩) (fun v h3 q => ?_)
  obtain ⟨t9, e9, rfl, hN3⟩ := q
  cases e9
  refine pw_icmp_eq 1079 d_Law_law_962 (by decide) (fun _ => ?_) (fun q => absurd rfl q)
  exact pw_widen (by omega) (by omega) (kk _ hN3)
