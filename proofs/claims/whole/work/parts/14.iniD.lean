set_option maxRecDepth 20000 in
set_option maxHeartbeats 2000000 in
theorem k_rset {G : zG} {h0 h : zH} {sx sy sz v4 : Int32} (hx : zsz sx) (hy : zsz sy) (hz : zsz sz) (hR : zRS h sx sy sz 0 (fun _ => 0) (fun _ => 0) (fun _ => 0) (fun _ => 0) (0, (fun _ => 0), (fun _ => 0), (fun _ => 0), (fun _ => 0), (fun _ => 0), (fun _ => 0))) (hlo : zlow 34 h0 h) (hl : h.length = 76) : PW G M_Rock_init (zroom 5 41 1890) false (fun r h' => r = .inl none ∧ zlow 34 h0 h' ∧ h'.length = 76 ∧ ∃ (S : zPS) (T : zBS), zPg (zkn 0) (mA (zm0 sx sy sz)) (mB (zm0 sx sy sz)) (mC (zm0 sx sy sz)) (mD (zm0 sx sy sz)) sx sy sz S ∧ S.1 ≤ 20 ∧ T = zbl (zkn 0) S.2.2.2.2.2.1 S.2.2.2.2.2.2 S.1 (2 ^ 0) (0, (fun _ => 0), (fun _ => 0), (fun _ => 0), (fun _ => 0)) 64 ∧ zRb h' 0 sx sy sz (zkn 0) T (fun _ => 0) (fun _ => 0) ∧ zPl h' (mA (zm0 sx sy sz)) (mB (zm0 sx sy sz)) (mC (zm0 sx sy sz)) (mD (zm0 sx sy sz)) ∧ zPp h' S ∧ zCr h') 166 [some (.ref 34), some (.int sx), some (.int sy), some (.int sz), some (.int v4)] [] h 41 1890 := by
  refine pw_aload_n d_Rock_init_166 rfl rfl ?_
  refine pw_get d_Rock_init_167 fl_Rock_11 hR.1.1 rfl ?_
  refine pw_bipush (x := nI 6) d_Rock_init_170 (by decide) ?_
  refine pw_aald (y := 64) d_Rock_init_172 hR.2.1.1 rfl rfl (by decide) (by decide) rfl ?_
  refine pw_iconst (x := 1) d_Rock_init_173 (by decide) ?_
  refine pw_iconst (x := 0) d_Rock_init_174 (by decide) ?_
  refine pw_iconst (x := 0) d_Rock_init_175 (by decide) ?_
  refine pw_iconst (x := 0) d_Rock_init_176 (by decide) ?_
  obtain ⟨ha6, ea6⟩ : ∃ x_9, x_9 = List.set h (53 + 2 * 6) (.inr (0, [.int 1, .int 0, .int 0]) : zE) := ⟨_, rfl⟩
  obtain ⟨hb6, eb6⟩ : ∃ x_9, x_9 = List.set ha6 (52 + 2 * 6) (.inr (2, [.ref (53 + 2 * 6), .int 0]) : zE) := ⟨_, rfl⟩
  refine pw_callV0 (R' := (zroom 1 0 0)) (h2 := hb6) [.int 1, .int 0, .int 0, .int 0] (fun q => nomatch q) d_Rock_init_177 lk_Rock_76 (hR.2.1.2.1 6 (by decide)) rfl rfl rfl (c_Plane_set (hR.2.1.2.1 6 (by decide)) (hR.2.1.2.2 6 (by decide)) (by decide) (by rw [eb6, ea6])) ?_
  have hR6 := zRS_set (j := 6) (by decide) hR ea6 eb6
  have hlo6 := zlow_s (zlow_s hlo ea6 (by decide)) eb6 (by decide)
  have hl6 := zs_ln eb6 (zs_ln ea6 hl)
  refine pw_aload_n d_Rock_init_180 rfl rfl ?_
  refine pw_get d_Rock_init_181 fl_Rock_11 hR6.1.1 rfl ?_
  refine pw_bipush (x := nI 7) d_Rock_init_184 (by decide) ?_
  refine pw_aald (y := 66) d_Rock_init_186 hR6.2.1.1 rfl rfl (by decide) (by decide) rfl ?_
  refine pw_iconst (x := 1) d_Rock_init_187 (by decide) ?_
  refine pw_iconst (x := 0) d_Rock_init_188 (by decide) ?_
  refine pw_iconst (x := 0) d_Rock_init_189 (by decide) ?_
  refine pw_iload_n d_Rock_init_190 rfl rfl ?_
  obtain ⟨ha7, ea7⟩ : ∃ x_9, x_9 = List.set hb6 (53 + 2 * 7) (.inr (0, [.int 1, .int 0, .int 0]) : zE) := ⟨_, rfl⟩
  obtain ⟨hb7, eb7⟩ : ∃ x_9, x_9 = List.set ha7 (52 + 2 * 7) (.inr (2, [.ref (53 + 2 * 7), .int sx]) : zE) := ⟨_, rfl⟩
  refine pw_callV0 (R' := (zroom 1 0 0)) (h2 := hb7) [.int 1, .int 0, .int 0, .int sx] (fun q => nomatch q) d_Rock_init_191 lk_Rock_76 (hR6.2.1.2.1 7 (by decide)) rfl rfl rfl (c_Plane_set (hR6.2.1.2.1 7 (by decide)) (hR6.2.1.2.2 7 (by decide)) (by decide) (by rw [eb7, ea7])) ?_
  have hR7 := zRS_set (j := 7) (by decide) hR6 ea7 eb7
  have hlo7 := zlow_s (zlow_s hlo6 ea7 (by decide)) eb7 (by decide)
  have hl7 := zs_ln eb7 (zs_ln ea7 hl6)
  refine pw_aload_n d_Rock_init_194 rfl rfl ?_
  refine pw_get d_Rock_init_195 fl_Rock_11 hR7.1.1 rfl ?_
  refine pw_bipush (x := nI 8) d_Rock_init_198 (by decide) ?_
  refine pw_aald (y := 68) d_Rock_init_200 hR7.2.1.1 rfl rfl (by decide) (by decide) rfl ?_
  refine pw_iconst (x := 0) d_Rock_init_201 (by decide) ?_
  refine pw_iconst (x := 1) d_Rock_init_202 (by decide) ?_
  refine pw_iconst (x := 0) d_Rock_init_203 (by decide) ?_
  refine pw_iconst (x := 0) d_Rock_init_204 (by decide) ?_
  obtain ⟨ha8, ea8⟩ : ∃ x_9, x_9 = List.set hb7 (53 + 2 * 8) (.inr (0, [.int 0, .int 1, .int 0]) : zE) := ⟨_, rfl⟩
  obtain ⟨hb8, eb8⟩ : ∃ x_9, x_9 = List.set ha8 (52 + 2 * 8) (.inr (2, [.ref (53 + 2 * 8), .int 0]) : zE) := ⟨_, rfl⟩
  refine pw_callV0 (R' := (zroom 1 0 0)) (h2 := hb8) [.int 0, .int 1, .int 0, .int 0] (fun q => nomatch q) d_Rock_init_205 lk_Rock_76 (hR7.2.1.2.1 8 (by decide)) rfl rfl rfl (c_Plane_set (hR7.2.1.2.1 8 (by decide)) (hR7.2.1.2.2 8 (by decide)) (by decide) (by rw [eb8, ea8])) ?_
  have hR8 := zRS_set (j := 8) (by decide) hR7 ea8 eb8
  have hlo8 := zlow_s (zlow_s hlo7 ea8 (by decide)) eb8 (by decide)
  have hl8 := zs_ln eb8 (zs_ln ea8 hl7)
  refine pw_aload_n d_Rock_init_208 rfl rfl ?_
  refine pw_get d_Rock_init_209 fl_Rock_11 hR8.1.1 rfl ?_
  refine pw_bipush (x := nI 9) d_Rock_init_212 (by decide) ?_
  refine pw_aald (y := 70) d_Rock_init_214 hR8.2.1.1 rfl rfl (by decide) (by decide) rfl ?_
  refine pw_iconst (x := 0) d_Rock_init_215 (by decide) ?_
  refine pw_iconst (x := 1) d_Rock_init_216 (by decide) ?_
  refine pw_iconst (x := 0) d_Rock_init_217 (by decide) ?_
  refine pw_iload_n d_Rock_init_218 rfl rfl ?_
  obtain ⟨ha9, ea9⟩ : ∃ x_9, x_9 = List.set hb8 (53 + 2 * 9) (.inr (0, [.int 0, .int 1, .int 0]) : zE) := ⟨_, rfl⟩
  obtain ⟨hb9, eb9⟩ : ∃ x_9, x_9 = List.set ha9 (52 + 2 * 9) (.inr (2, [.ref (53 + 2 * 9), .int sy]) : zE) := ⟨_, rfl⟩
  refine pw_callV0 (R' := (zroom 1 0 0)) (h2 := hb9) [.int 0, .int 1, .int 0, .int sy] (fun q => nomatch q) d_Rock_init_219 lk_Rock_76 (hR8.2.1.2.1 9 (by decide)) rfl rfl rfl (c_Plane_set (hR8.2.1.2.1 9 (by decide)) (hR8.2.1.2.2 9 (by decide)) (by decide) (by rw [eb9, ea9])) ?_
  have hR9 := zRS_set (j := 9) (by decide) hR8 ea9 eb9
  have hlo9 := zlow_s (zlow_s hlo8 ea9 (by decide)) eb9 (by decide)
  have hl9 := zs_ln eb9 (zs_ln ea9 hl8)
  refine pw_aload_n d_Rock_init_222 rfl rfl ?_
  refine pw_get d_Rock_init_223 fl_Rock_11 hR9.1.1 rfl ?_
  refine pw_bipush (x := nI 10) d_Rock_init_226 (by decide) ?_
  refine pw_aald (y := 72) d_Rock_init_228 hR9.2.1.1 rfl rfl (by decide) (by decide) rfl ?_
  refine pw_iconst (x := 0) d_Rock_init_229 (by decide) ?_
  refine pw_iconst (x := 0) d_Rock_init_230 (by decide) ?_
  refine pw_iconst (x := 1) d_Rock_init_231 (by decide) ?_
  refine pw_iconst (x := 0) d_Rock_init_232 (by decide) ?_
  obtain ⟨ha10, ea10⟩ : ∃ x_9, x_9 = List.set hb9 (53 + 2 * 10) (.inr (0, [.int 0, .int 0, .int 1]) : zE) := ⟨_, rfl⟩
  obtain ⟨hb10, eb10⟩ : ∃ x_9, x_9 = List.set ha10 (52 + 2 * 10) (.inr (2, [.ref (53 + 2 * 10), .int 0]) : zE) := ⟨_, rfl⟩
  refine pw_callV0 (R' := (zroom 1 0 0)) (h2 := hb10) [.int 0, .int 0, .int 1, .int 0] (fun q => nomatch q) d_Rock_init_233 lk_Rock_76 (hR9.2.1.2.1 10 (by decide)) rfl rfl rfl (c_Plane_set (hR9.2.1.2.1 10 (by decide)) (hR9.2.1.2.2 10 (by decide)) (by decide) (by rw [eb10, ea10])) ?_
  have hR10 := zRS_set (j := 10) (by decide) hR9 ea10 eb10
  have hlo10 := zlow_s (zlow_s hlo9 ea10 (by decide)) eb10 (by decide)
  have hl10 := zs_ln eb10 (zs_ln ea10 hl9)
  refine pw_aload_n d_Rock_init_236 rfl rfl ?_
  refine pw_get d_Rock_init_237 fl_Rock_11 hR10.1.1 rfl ?_
  refine pw_bipush (x := nI 11) d_Rock_init_240 (by decide) ?_
  refine pw_aald (y := 74) d_Rock_init_242 hR10.2.1.1 rfl rfl (by decide) (by decide) rfl ?_
  refine pw_iconst (x := 0) d_Rock_init_243 (by decide) ?_
  refine pw_iconst (x := 0) d_Rock_init_244 (by decide) ?_
  refine pw_iconst (x := 1) d_Rock_init_245 (by decide) ?_
  refine pw_iload_n d_Rock_init_246 rfl rfl ?_
  obtain ⟨ha11, ea11⟩ : ∃ x_9, x_9 = List.set hb10 (53 + 2 * 11) (.inr (0, [.int 0, .int 0, .int 1]) : zE) := ⟨_, rfl⟩
  obtain ⟨hb11, eb11⟩ : ∃ x_9, x_9 = List.set ha11 (52 + 2 * 11) (.inr (2, [.ref (53 + 2 * 11), .int sz]) : zE) := ⟨_, rfl⟩
  refine pw_callV0 (R' := (zroom 1 0 0)) (h2 := hb11) [.int 0, .int 0, .int 1, .int sz] (fun q => nomatch q) d_Rock_init_247 lk_Rock_76 (hR10.2.1.2.1 11 (by decide)) rfl rfl rfl (c_Plane_set (hR10.2.1.2.1 11 (by decide)) (hR10.2.1.2.2 11 (by decide)) (by decide) (by rw [eb11, ea11])) ?_
  have hR11 := zRS_set (j := 11) (by decide) hR10 ea11 eb11
  have hlo11 := zlow_s (zlow_s hlo10 ea11 (by decide)) eb11 (by decide)
  have hl11 := zs_ln eb11 (zs_ln ea11 hl10)
  refine pw_bipush (x := nI 6) d_Rock_init_250 (by decide) ?_
  refine pw_istore d_Rock_init_252 (by decide) (pl' := [some (.ref 34), some (.int sx), some (.int sy), some (.int sz), some (.int (nI 6))]) rfl ?_
  exact l_rfac hx hy hz 7 6 _ (0, (fun _ => 0), (fun _ => 0), (fun _ => 0), (fun _ => 0), (fun _ => 0), (fun _ => 0)) (by decide) (by decide) (by decide) ⟨by rw [kq_6]; exact hR11.1, zPl_cg zm0_A hR11.2.1, hR11.2.2.1, hR11.2.2.2⟩ (zPg_0 rfl) (by decide) hlo11 hl11
set_option maxRecDepth 20000 in
set_option maxHeartbeats 2000000 in
theorem l_rini {G : zG} {h0 : zH} {sx sy sz : Int32} (hx : zsz sx) (hy : zsz sy) (hz : zsz sz) : ∀ (n i : Nat) (h : zH), 12 - i < n → i ≤ 12 → h.length = 52 + 2 * i → zRk h 0 0 sx sy sz 0 (fun _ => 0) (fun _ => 0) (fun _ => 0) (fun _ => 0) (fun _ => 0) (fun _ => 0) → zPp h (0, (fun _ => 0), (fun _ => 0), (fun _ => 0), (fun _ => 0), (fun _ => 0), (fun _ => 0)) → zCr h → h[35]? = some (.inl (4, 12, .inr (.inr (.inr (.inr (zUp 52 i)))))) → (∀ j, j < i → h[52 + 2 * j]? = some (.inr (2, [.ref (53 + 2 * j), .int 0]))) → (∀ j, j < i → zAr h (53 + 2 * j) 0 0 0) → zlow 34 h0 h → PW G M_Rock_init (zroom 5 41 1890) false (fun r h' => r = .inl none ∧ zlow 34 h0 h' ∧ h'.length = 76 ∧ ∃ (S : zPS) (T : zBS), zPg (zkn 0) (mA (zm0 sx sy sz)) (mB (zm0 sx sy sz)) (mC (zm0 sx sy sz)) (mD (zm0 sx sy sz)) sx sy sz S ∧ S.1 ≤ 20 ∧ T = zbl (zkn 0) S.2.2.2.2.2.1 S.2.2.2.2.2.2 S.1 (2 ^ 0) (0, (fun _ => 0), (fun _ => 0), (fun _ => 0), (fun _ => 0)) 64 ∧ zRb h' 0 sx sy sz (zkn 0) T (fun _ => 0) (fun _ => 0) ∧ zPl h' (mA (zm0 sx sy sz)) (mB (zm0 sx sy sz)) (mC (zm0 sx sy sz)) (mD (zm0 sx sy sz)) ∧ zPp h' S ∧ zCr h') 139 [some (.ref 34), some (.int sx), some (.int sy), some (.int sz), some (.int (nI i))] [] h (17 + 2 * i) (1830 + 5 * i) := by
  intro n
  induction n with
  | zero => intro i h hn; exact absurd hn (Nat.not_lt_zero _)
  | succ n ih =>
    intro i h hn hi12 hl hr hp hcr h35 h5 h6 hlo
    refine pw_iload d_Rock_init_139 rfl ?_
    refine pw_bipush (x := 12) d_Rock_init_141 (by decide) ?_
    refine pw_icmp_ge 166 d_Rock_init_143 (by decide) (fun q_i => ?_) (fun q_i => ?_)
    · have hi : i = 12 := by have := (nI_leI (a := 12) (b := i) (by decide) (by omega)).mp q_i; omega
      subst hi
      exact k_rset hx hy hz ⟨hr, ⟨h35, h5, h6⟩, hp, hcr⟩ hlo hl
    · have hi : i < 12 := by have := mt (nI_leI (a := 12) (b := i) (by decide) (by omega)).mpr q_i; omega
      refine pw_aload_n d_Rock_init_146 rfl rfl ?_
      refine pw_get d_Rock_init_147 fl_Rock_11 hr.1 rfl ?_
      refine pw_iload d_Rock_init_150 rfl ?_
      obtain ⟨h1, e1⟩ : ∃ x_9, x_9 = h ++ [(.inr (2, [.null, .int 0]) : zE)] := ⟨_, rfl⟩
      refine pw_newo (n := (52 + 2 * i)) rfl d_Rock_init_152 nw_Rock_9 (by simp only [zroom]; omega) (by simp only [zroom]; omega) hl e1 ?_
      refine pw_dup d_Rock_init_155 rfl ?_
      refine pw_callIu (R' := zroom 2 1 3) (P' := false) [] (fun q => nomatch q) d_Rock_init_156 lk_Rock_75 rfl (fun v hv => by cases hv) (by decide) ⟨by decide, by decide, by simp only [zroom]; omega, by simp only [zroom]; omega⟩ (Nat.le_of_ble_eq_true rfl) (c_Plane_init (zp_ln e1 hl) (zp_eq e1 hl)) (fun h2 hh => ?_)
      obtain ⟨hz2, hl2, hn2, ha2⟩ := hh
      have kp : ∀ {j : Nat} {c : zE}, h[j]? = some c → h2[j]? = some c := fun {j} {c} q => by
        have hj : j < 52 + 2 * i := by rw [← hl]; exact (List.getElem?_eq_some_iff.mp q).1
        exact zlow_at hz2 hj (zp_ne e1 q)
      obtain ⟨h3, e3⟩ : ∃ x_9, x_9 = h2.set 35 (.inl (4, 12, .inr (.inr (.inr (.inr (zUp 52 (i + 1)))))) : zE) := ⟨_, rfl⟩
      refine pw_aast (h2 := h3) rfl d_Rock_init_159 (kp h35) hn2 rfl rfl rfl (by omega) (by decide) (by rw [zUp_s rfl]; exact e3.symm) ?_
      refine pw_iinc (y := nI (i + 1)) d_Rock_init_160 rfl (nI_1 i) (by decide) (pl' := [some (.ref 34), some (.int sx), some (.int sy), some (.int sz), some (.int (nI (i + 1)))]) rfl ?_
      refine pw_goto 139 d_Rock_init_163 (by decide) ?_
      have kq3 : ∀ {j : Nat} {c : zE}, 34 ≤ j → j < 52 → j ≠ 35 → h[j]? = some c → h3[j]? = some c := fun _ _ a q => zg_ne e3 (Ne.symm a) (kp q)
      refine pw_widen (nc' := 17 + 2 * (i + 1)) (ns' := 1830 + 5 * (i + 1)) (by simp only [zroom]; omega) (by simp only [zroom]; omega) (ih (i + 1) h3 (by omega) (by omega) ((zs_ln e3 hl2).trans (by omega)) (zRk_kp kq3 hr) (zPp_kp kq3 hp) (zCr_kp kq3 hcr) (zg_eq e3 (kp h35)) (fun j hj => ?_) (fun j hj => ?_) ?_)
      · rcases Nat.lt_succ_iff_lt_or_eq.mp hj with q | rfl
        · exact zg_ne e3 (by omega) (kp (h5 j q))
        · refine zg_ne e3 (by omega) (hn2.trans ?_)
          rw [show 52 + 2 * j + 1 = 53 + 2 * j by omega]
      · rcases Nat.lt_succ_iff_lt_or_eq.mp hj with q | rfl
        · exact zg_ne e3 (by omega) (kp (h6 j q))
        · refine zg_ne e3 (by omega) ?_
          rw [show 53 + 2 * j = 52 + 2 * j + 1 by omega]; exact ha2
      · exact zlow_s (zlow_tr (zlow_p hlo e1 hl (by omega)) (zlow_w hz2 (by omega))) e3 (by decide)
set_option maxRecDepth 20000 in
set_option maxHeartbeats 2000000 in
theorem c_Rock_init {G : zG} {h : zH} (hl : h.length = 35) (hk : h[34]? = some (.inr (4, [.null, .null, .null, .null, .null, .null, .int (0), .int (0), .int (0), .int (0), .int (0), .null, .null, .null, .null, .null, .int (0)]))) {sx sy sz : Int32} (hx : zsz sx) (hy : zsz sy) (hz : zsz sz) : PW G M_Rock_init (zroom 5 41 1890) false (fun r h' => r = .inl none ∧ zlow 34 h h' ∧ h'.length = 76 ∧ ∃ (S : zPS) (T : zBS), zPg (zkn 0) (mA (zm0 sx sy sz)) (mB (zm0 sx sy sz)) (mC (zm0 sx sy sz)) (mD (zm0 sx sy sz)) sx sy sz S ∧ S.1 ≤ 20 ∧ T = zbl (zkn 0) S.2.2.2.2.2.1 S.2.2.2.2.2.2 S.1 (2 ^ 0) (0, (fun _ => 0), (fun _ => 0), (fun _ => 0), (fun _ => 0)) 64 ∧ zRb h' 0 sx sy sz (zkn 0) T (fun _ => 0) (fun _ => 0) ∧ zPl h' (mA (zm0 sx sy sz)) (mB (zm0 sx sy sz)) (mC (zm0 sx sy sz)) (mD (zm0 sx sy sz)) ∧ zPp h' S ∧ zCr h') 0 (zentry 5 [.ref 34, .int (sx), .int (sy), .int (sz)]) [] h 0 0 := by
  show PW G M_Rock_init (zroom 5 41 1890) false _ 0 [some (.ref 34), some (.int (sx)), some (.int (sy)), some (.int (sz)), none] [] h 0 0
  refine pw_aload_n d_Rock_init_0 rfl rfl ?_
  refine pw_objInit d_Rock_init_1 lk_Rock_3 (by decide) (by decide) ?_
  refine pw_aload_n d_Rock_init_4 rfl rfl ?_
  refine pw_bipush (x := 12) d_Rock_init_5 (by decide) ?_
  obtain ⟨h_1, eph_1⟩ : ∃ x_9, x_9 = h ++ [(.inl (4, 12, .inr (.inr (.inr (.inr (fun _ => none))))) : zE)] := ⟨_, rfl⟩
  refine pw_anewP (N := 12) rfl d_Rock_init_7 cl_Rock_9 (by decide) (by decide) (by decide) (by decide) (by decide) hl eph_1 ?_
  obtain ⟨h_2, eh_2⟩ : ∃ x_9, x_9 = List.set h_1 (34) (.inr (4, [.ref 35, .null, .null, .null, .null, .null, .int (0), .int (0), .int (0), .int (0), .int (0), .null, .null, .null, .null, .null, .int (0)])) := ⟨_, rfl⟩
  refine pw_put rfl d_Rock_init_10 (fp_Rock_11 _) (zp_ne eph_1 hk) (Nat.le_of_ble_eq_true rfl) (fun _ => ⟨rfl, rfl⟩) eh_2.symm ?_
  refine pw_aload_n d_Rock_init_13 rfl rfl ?_
  obtain ⟨h_3, eph_3⟩ : ∃ x_9, x_9 = h_2 ++ [(.inr (3, [.null, .null, .null, .null, .null, .null, .int (0)]) : zE)] := ⟨_, rfl⟩
  refine pw_newo (n := 36) rfl d_Rock_init_14 nw_Rock_17 (by decide) (by decide) (zs_ln eh_2 (zp_ln eph_1 hl)) eph_3 ?_
  refine pw_dup d_Rock_init_17 rfl ?_
  refine pw_callIu (R' := zroom 1 6 1320) (P' := false) [] (fun q => nomatch q) d_Rock_init_18 lk_Rock_19 rfl (fun v hv => by cases hv) (by decide) ⟨by decide, by decide, by decide, by decide⟩ (Nat.le_of_ble_eq_true rfl) (c_Points_init (zp_ln eph_3 (zs_ln eh_2 (zp_ln eph_1 hl))) (zp_eq eph_3 (zs_ln eh_2 (zp_ln eph_1 hl)))) (fun h9 hh => ?_)
  obtain ⟨hz9, hl9, hp9⟩ := hh
  obtain ⟨h_4, eh_4⟩ : ∃ x_9, x_9 = List.set h9 (34) (.inr (4, [.ref 35, .ref 36, .null, .null, .null, .null, .int (0), .int (0), .int (0), .int (0), .int (0), .null, .null, .null, .null, .null, .int (0)])) := ⟨_, rfl⟩
  refine pw_put rfl d_Rock_init_21 (fp_Rock_20 _) (zlow_at hz9 (by decide) (zp_ne eph_3 (zg_eq eh_2 (zp_ne eph_1 hk)))) (Nat.le_of_ble_eq_true rfl) (fun _ => ⟨rfl, rfl⟩) eh_4.symm ?_
  refine pw_aload_n d_Rock_init_24 rfl rfl ?_
  refine pw_bipush (x := 64) d_Rock_init_25 (by decide) ?_
  obtain ⟨h_5, eph_5⟩ : ∃ x_9, x_9 = h_4 ++ [(.inl (0, 64, .inl (fun _ => 0)) : zE)] := ⟨_, rfl⟩
  refine pw_newi (N := 64) rfl d_Rock_init_27 (by decide) (by decide) (by decide) (by decide) (by decide) (zs_ln eh_4 hl9) eph_5 ?_
  obtain ⟨h_6, eh_6⟩ : ∃ x_9, x_9 = List.set h_5 (34) (.inr (4, [.ref 35, .ref 36, .ref 43, .null, .null, .null, .int (0), .int (0), .int (0), .int (0), .int (0), .null, .null, .null, .null, .null, .int (0)])) := ⟨_, rfl⟩
  refine pw_put rfl d_Rock_init_29 (fp_Rock_24 _) (zp_ne eph_5 (zg_eq eh_4 (zlow_at hz9 (by decide) (zp_ne eph_3 (zg_eq eh_2 (zp_ne eph_1 hk)))))) (Nat.le_of_ble_eq_true rfl) (fun _ => ⟨rfl, rfl⟩) eh_6.symm ?_
  refine pw_aload_n d_Rock_init_32 rfl rfl ?_
  refine pw_bipush (x := 64) d_Rock_init_33 (by decide) ?_
  obtain ⟨h_7, eph_7⟩ : ∃ x_9, x_9 = h_6 ++ [(.inl (0, 64, .inl (fun _ => 0)) : zE)] := ⟨_, rfl⟩
  refine pw_newi (N := 64) rfl d_Rock_init_35 (by decide) (by decide) (by decide) (by decide) (by decide) (zs_ln eh_6 (zp_ln eph_5 (zs_ln eh_4 hl9))) eph_7 ?_
  obtain ⟨h_8, eh_8⟩ : ∃ x_9, x_9 = List.set h_7 (34) (.inr (4, [.ref 35, .ref 36, .ref 43, .ref 44, .null, .null, .int (0), .int (0), .int (0), .int (0), .int (0), .null, .null, .null, .null, .null, .int (0)])) := ⟨_, rfl⟩
  refine pw_put rfl d_Rock_init_37 (fp_Rock_28 _) (zp_ne eph_7 (zg_eq eh_6 (zp_ne eph_5 (zg_eq eh_4 (zlow_at hz9 (by decide) (zp_ne eph_3 (zg_eq eh_2 (zp_ne eph_1 hk)))))))) (Nat.le_of_ble_eq_true rfl) (fun _ => ⟨rfl, rfl⟩) eh_8.symm ?_
  refine pw_aload_n d_Rock_init_40 rfl rfl ?_
  refine pw_bipush (x := 64) d_Rock_init_41 (by decide) ?_
  obtain ⟨h_9, eph_9⟩ : ∃ x_9, x_9 = h_8 ++ [(.inl (0, 64, .inl (fun _ => 0)) : zE)] := ⟨_, rfl⟩
  refine pw_newi (N := 64) rfl d_Rock_init_43 (by decide) (by decide) (by decide) (by decide) (by decide) (zs_ln eh_8 (zp_ln eph_7 (zs_ln eh_6 (zp_ln eph_5 (zs_ln eh_4 hl9))))) eph_9 ?_
  obtain ⟨h_10, eh_10⟩ : ∃ x_9, x_9 = List.set h_9 (34) (.inr (4, [.ref 35, .ref 36, .ref 43, .ref 44, .ref 45, .null, .int (0), .int (0), .int (0), .int (0), .int (0), .null, .null, .null, .null, .null, .int (0)])) := ⟨_, rfl⟩
  refine pw_put rfl d_Rock_init_45 (fp_Rock_31 _) (zp_ne eph_9 (zg_eq eh_8 (zp_ne eph_7 (zg_eq eh_6 (zp_ne eph_5 (zg_eq eh_4 (zlow_at hz9 (by decide) (zp_ne eph_3 (zg_eq eh_2 (zp_ne eph_1 hk)))))))))) (Nat.le_of_ble_eq_true rfl) (fun _ => ⟨rfl, rfl⟩) eh_10.symm ?_
  refine pw_aload_n d_Rock_init_48 rfl rfl ?_
  refine pw_bipush (x := 64) d_Rock_init_49 (by decide) ?_
  obtain ⟨h_11, eph_11⟩ : ∃ x_9, x_9 = h_10 ++ [(.inl (0, 64, .inl (fun _ => 0)) : zE)] := ⟨_, rfl⟩
  refine pw_newi (N := 64) rfl d_Rock_init_51 (by decide) (by decide) (by decide) (by decide) (by decide) (zs_ln eh_10 (zp_ln eph_9 (zs_ln eh_8 (zp_ln eph_7 (zs_ln eh_6 (zp_ln eph_5 (zs_ln eh_4 hl9))))))) eph_11 ?_
  obtain ⟨h_12, eh_12⟩ : ∃ x_9, x_9 = List.set h_11 (34) (.inr (4, [.ref 35, .ref 36, .ref 43, .ref 44, .ref 45, .ref 46, .int (0), .int (0), .int (0), .int (0), .int (0), .null, .null, .null, .null, .null, .int (0)])) := ⟨_, rfl⟩
  refine pw_put rfl d_Rock_init_53 (fp_Rock_34 _) (zp_ne eph_11 (zg_eq eh_10 (zp_ne eph_9 (zg_eq eh_8 (zp_ne eph_7 (zg_eq eh_6 (zp_ne eph_5 (zg_eq eh_4 (zlow_at hz9 (by decide) (zp_ne eph_3 (zg_eq eh_2 (zp_ne eph_1 hk)))))))))))) (Nat.le_of_ble_eq_true rfl) (fun _ => ⟨rfl, rfl⟩) eh_12.symm ?_
  refine pw_aload_n d_Rock_init_56 rfl rfl ?_
  refine pw_iconst (x := 0) d_Rock_init_57 (by decide) ?_
  obtain ⟨h_13, eh_13⟩ : ∃ x_9, x_9 = List.set h_12 (34) (.inr (4, [.ref 35, .ref 36, .ref 43, .ref 44, .ref 45, .ref 46, .int (0), .int (0), .int (0), .int (0), .int (0), .null, .null, .null, .null, .null, .int (0)])) := ⟨_, rfl⟩
  refine pw_put rfl d_Rock_init_58 (fp_Rock_37 _ _) (zg_eq eh_12 (zp_ne eph_11 (zg_eq eh_10 (zp_ne eph_9 (zg_eq eh_8 (zp_ne eph_7 (zg_eq eh_6 (zp_ne eph_5 (zg_eq eh_4 (zlow_at hz9 (by decide) (zp_ne eph_3 (zg_eq eh_2 (zp_ne eph_1 hk))))))))))))) (Nat.le_of_ble_eq_true rfl) (fun _ => ⟨rfl, rfl⟩) eh_13.symm ?_
  refine pw_aload_n d_Rock_init_61 rfl rfl ?_
  refine pw_iconst (x := 0) d_Rock_init_62 (by decide) ?_
  obtain ⟨h_14, eh_14⟩ : ∃ x_9, x_9 = List.set h_13 (34) (.inr (4, [.ref 35, .ref 36, .ref 43, .ref 44, .ref 45, .ref 46, .int (0), .int (0), .int (0), .int (0), .int (0), .null, .null, .null, .null, .null, .int (0)])) := ⟨_, rfl⟩
  refine pw_put rfl d_Rock_init_63 (fp_Rock_41 _ _) (zg_eq eh_13 (zg_eq eh_12 (zp_ne eph_11 (zg_eq eh_10 (zp_ne eph_9 (zg_eq eh_8 (zp_ne eph_7 (zg_eq eh_6 (zp_ne eph_5 (zg_eq eh_4 (zlow_at hz9 (by decide) (zp_ne eph_3 (zg_eq eh_2 (zp_ne eph_1 hk)))))))))))))) (Nat.le_of_ble_eq_true rfl) (fun _ => ⟨rfl, rfl⟩) eh_14.symm ?_
  refine pw_aload_n d_Rock_init_66 rfl rfl ?_
  refine pw_bipush (x := 6) d_Rock_init_67 (by decide) ?_
  obtain ⟨h_15, eph_15⟩ : ∃ x_9, x_9 = h_14 ++ [(.inl (0, 6, .inl (fun _ => 0)) : zE)] := ⟨_, rfl⟩
  refine pw_newi (N := 6) rfl d_Rock_init_69 (by decide) (by decide) (by decide) (by decide) (by decide) (zs_ln eh_14 (zs_ln eh_13 (zs_ln eh_12 (zp_ln eph_11 (zs_ln eh_10 (zp_ln eph_9 (zs_ln eh_8 (zp_ln eph_7 (zs_ln eh_6 (zp_ln eph_5 (zs_ln eh_4 hl9))))))))))) eph_15 ?_
  obtain ⟨h_16, eh_16⟩ : ∃ x_9, x_9 = List.set h_15 (34) (.inr (4, [.ref 35, .ref 36, .ref 43, .ref 44, .ref 45, .ref 46, .int (0), .int (0), .int (0), .int (0), .int (0), .ref 47, .null, .null, .null, .null, .int (0)])) := ⟨_, rfl⟩
  refine pw_put rfl d_Rock_init_71 (fp_Rock_44 _) (zp_ne eph_15 (zg_eq eh_14 (zg_eq eh_13 (zg_eq eh_12 (zp_ne eph_11 (zg_eq eh_10 (zp_ne eph_9 (zg_eq eh_8 (zp_ne eph_7 (zg_eq eh_6 (zp_ne eph_5 (zg_eq eh_4 (zlow_at hz9 (by decide) (zp_ne eph_3 (zg_eq eh_2 (zp_ne eph_1 hk)))))))))))))))) (Nat.le_of_ble_eq_true rfl) (fun _ => ⟨rfl, rfl⟩) eh_16.symm ?_
  refine pw_aload_n d_Rock_init_74 rfl rfl ?_
  refine pw_sipush (x := 220) d_Rock_init_75 (by decide) ?_
  obtain ⟨h_17, eph_17⟩ : ∃ x_9, x_9 = h_16 ++ [(.inl (0, 220, .inl (fun _ => 0)) : zE)] := ⟨_, rfl⟩
  refine pw_newi (N := 220) rfl d_Rock_init_78 (by decide) (by decide) (by decide) (by decide) (by decide) (zs_ln eh_16 (zp_ln eph_15 (zs_ln eh_14 (zs_ln eh_13 (zs_ln eh_12 (zp_ln eph_11 (zs_ln eh_10 (zp_ln eph_9 (zs_ln eh_8 (zp_ln eph_7 (zs_ln eh_6 (zp_ln eph_5 (zs_ln eh_4 hl9))))))))))))) eph_17 ?_
  obtain ⟨h_18, eh_18⟩ : ∃ x_9, x_9 = List.set h_17 (34) (.inr (4, [.ref 35, .ref 36, .ref 43, .ref 44, .ref 45, .ref 46, .int (0), .int (0), .int (0), .int (0), .int (0), .ref 47, .ref 48, .null, .null, .null, .int (0)])) := ⟨_, rfl⟩
  refine pw_put rfl d_Rock_init_80 (fp_Rock_47 _) (zp_ne eph_17 (zg_eq eh_16 (zp_ne eph_15 (zg_eq eh_14 (zg_eq eh_13 (zg_eq eh_12 (zp_ne eph_11 (zg_eq eh_10 (zp_ne eph_9 (zg_eq eh_8 (zp_ne eph_7 (zg_eq eh_6 (zp_ne eph_5 (zg_eq eh_4 (zlow_at hz9 (by decide) (zp_ne eph_3 (zg_eq eh_2 (zp_ne eph_1 hk)))))))))))))))))) (Nat.le_of_ble_eq_true rfl) (fun _ => ⟨rfl, rfl⟩) eh_18.symm ?_
  refine pw_aload_n d_Rock_init_83 rfl rfl ?_
  obtain ⟨h_19, eph_19⟩ : ∃ x_9, x_9 = h_18 ++ [(.inr (0, [.int (0), .int (0), .int (0)]) : zE)] := ⟨_, rfl⟩
  refine pw_arrow (n := 49) rfl d_Rock_init_84 d_Rock_init_87 d_Rock_init_88 nw_Rock_50 lk_Rock_52 (by decide) (by decide) (by decide) (by decide) (Nat.le_of_ble_eq_true rfl) (zs_ln eh_18 (zp_ln eph_17 (zs_ln eh_16 (zp_ln eph_15 (zs_ln eh_14 (zs_ln eh_13 (zs_ln eh_12 (zp_ln eph_11 (zs_ln eh_10 (zp_ln eph_9 (zs_ln eh_8 (zp_ln eph_7 (zs_ln eh_6 (zp_ln eph_5 (zs_ln eh_4 hl9))))))))))))))) eph_19 ?_
  obtain ⟨h_20, eh_20⟩ : ∃ x_9, x_9 = List.set h_19 (34) (.inr (4, [.ref 35, .ref 36, .ref 43, .ref 44, .ref 45, .ref 46, .int (0), .int (0), .int (0), .int (0), .int (0), .ref 47, .ref 48, .ref 49, .null, .null, .int (0)])) := ⟨_, rfl⟩
  refine pw_put rfl d_Rock_init_91 (fp_Rock_53 _) (zp_ne eph_19 (zg_eq eh_18 (zp_ne eph_17 (zg_eq eh_16 (zp_ne eph_15 (zg_eq eh_14 (zg_eq eh_13 (zg_eq eh_12 (zp_ne eph_11 (zg_eq eh_10 (zp_ne eph_9 (zg_eq eh_8 (zp_ne eph_7 (zg_eq eh_6 (zp_ne eph_5 (zg_eq eh_4 (zlow_at hz9 (by decide) (zp_ne eph_3 (zg_eq eh_2 (zp_ne eph_1 hk)))))))))))))))))))) (Nat.le_of_ble_eq_true rfl) (fun _ => ⟨rfl, rfl⟩) eh_20.symm ?_
  refine pw_aload_n d_Rock_init_94 rfl rfl ?_
  obtain ⟨h_21, eph_21⟩ : ∃ x_9, x_9 = h_20 ++ [(.inr (0, [.int (0), .int (0), .int (0)]) : zE)] := ⟨_, rfl⟩
  refine pw_arrow (n := 50) rfl d_Rock_init_95 d_Rock_init_98 d_Rock_init_99 nw_Rock_50 lk_Rock_52 (by decide) (by decide) (by decide) (by decide) (Nat.le_of_ble_eq_true rfl) (zs_ln eh_20 (zp_ln eph_19 (zs_ln eh_18 (zp_ln eph_17 (zs_ln eh_16 (zp_ln eph_15 (zs_ln eh_14 (zs_ln eh_13 (zs_ln eh_12 (zp_ln eph_11 (zs_ln eh_10 (zp_ln eph_9 (zs_ln eh_8 (zp_ln eph_7 (zs_ln eh_6 (zp_ln eph_5 (zs_ln eh_4 hl9))))))))))))))))) eph_21 ?_
  obtain ⟨h_22, eh_22⟩ : ∃ x_9, x_9 = List.set h_21 (34) (.inr (4, [.ref 35, .ref 36, .ref 43, .ref 44, .ref 45, .ref 46, .int (0), .int (0), .int (0), .int (0), .int (0), .ref 47, .ref 48, .ref 49, .ref 50, .null, .int (0)])) := ⟨_, rfl⟩
  refine pw_put rfl d_Rock_init_102 (fp_Rock_57 _) (zp_ne eph_21 (zg_eq eh_20 (zp_ne eph_19 (zg_eq eh_18 (zp_ne eph_17 (zg_eq eh_16 (zp_ne eph_15 (zg_eq eh_14 (zg_eq eh_13 (zg_eq eh_12 (zp_ne eph_11 (zg_eq eh_10 (zp_ne eph_9 (zg_eq eh_8 (zp_ne eph_7 (zg_eq eh_6 (zp_ne eph_5 (zg_eq eh_4 (zlow_at hz9 (by decide) (zp_ne eph_3 (zg_eq eh_2 (zp_ne eph_1 hk)))))))))))))))))))))) (Nat.le_of_ble_eq_true rfl) (fun _ => ⟨rfl, rfl⟩) eh_22.symm ?_
  refine pw_aload_n d_Rock_init_105 rfl rfl ?_
  obtain ⟨h_23, eph_23⟩ : ∃ x_9, x_9 = h_22 ++ [(.inr (0, [.int (0), .int (0), .int (0)]) : zE)] := ⟨_, rfl⟩
  refine pw_arrow (n := 51) rfl d_Rock_init_106 d_Rock_init_109 d_Rock_init_110 nw_Rock_50 lk_Rock_52 (by decide) (by decide) (by decide) (by decide) (Nat.le_of_ble_eq_true rfl) (zs_ln eh_22 (zp_ln eph_21 (zs_ln eh_20 (zp_ln eph_19 (zs_ln eh_18 (zp_ln eph_17 (zs_ln eh_16 (zp_ln eph_15 (zs_ln eh_14 (zs_ln eh_13 (zs_ln eh_12 (zp_ln eph_11 (zs_ln eh_10 (zp_ln eph_9 (zs_ln eh_8 (zp_ln eph_7 (zs_ln eh_6 (zp_ln eph_5 (zs_ln eh_4 hl9))))))))))))))))))) eph_23 ?_
  obtain ⟨h_24, eh_24⟩ : ∃ x_9, x_9 = List.set h_23 (34) (.inr (4, [.ref 35, .ref 36, .ref 43, .ref 44, .ref 45, .ref 46, .int (0), .int (0), .int (0), .int (0), .int (0), .ref 47, .ref 48, .ref 49, .ref 50, .ref 51, .int (0)])) := ⟨_, rfl⟩
  refine pw_put rfl d_Rock_init_113 (fp_Rock_60 _) (zp_ne eph_23 (zg_eq eh_22 (zp_ne eph_21 (zg_eq eh_20 (zp_ne eph_19 (zg_eq eh_18 (zp_ne eph_17 (zg_eq eh_16 (zp_ne eph_15 (zg_eq eh_14 (zg_eq eh_13 (zg_eq eh_12 (zp_ne eph_11 (zg_eq eh_10 (zp_ne eph_9 (zg_eq eh_8 (zp_ne eph_7 (zg_eq eh_6 (zp_ne eph_5 (zg_eq eh_4 (zlow_at hz9 (by decide) (zp_ne eph_3 (zg_eq eh_2 (zp_ne eph_1 hk)))))))))))))))))))))))) (Nat.le_of_ble_eq_true rfl) (fun _ => ⟨rfl, rfl⟩) eh_24.symm ?_
  refine pw_aload_n d_Rock_init_116 rfl rfl ?_
  refine pw_iconst (x := 0) d_Rock_init_117 (by decide) ?_
  obtain ⟨h_25, eh_25⟩ : ∃ x_9, x_9 = List.set h_24 (34) (.inr (4, [.ref 35, .ref 36, .ref 43, .ref 44, .ref 45, .ref 46, .int (0), .int (0), .int (0), .int (0), .int (0), .ref 47, .ref 48, .ref 49, .ref 50, .ref 51, .int (0)])) := ⟨_, rfl⟩
  refine pw_put rfl d_Rock_init_118 (fp_Rock_63 _ _) (zg_eq eh_24 (zp_ne eph_23 (zg_eq eh_22 (zp_ne eph_21 (zg_eq eh_20 (zp_ne eph_19 (zg_eq eh_18 (zp_ne eph_17 (zg_eq eh_16 (zp_ne eph_15 (zg_eq eh_14 (zg_eq eh_13 (zg_eq eh_12 (zp_ne eph_11 (zg_eq eh_10 (zp_ne eph_9 (zg_eq eh_8 (zp_ne eph_7 (zg_eq eh_6 (zp_ne eph_5 (zg_eq eh_4 (zlow_at hz9 (by decide) (zp_ne eph_3 (zg_eq eh_2 (zp_ne eph_1 hk))))))))))))))))))))))))) (Nat.le_of_ble_eq_true rfl) (fun _ => ⟨rfl, rfl⟩) eh_25.symm ?_
  refine pw_aload_n d_Rock_init_121 rfl rfl ?_
  refine pw_iload_n d_Rock_init_122 rfl rfl ?_
  obtain ⟨h_26, eh_26⟩ : ∃ x_9, x_9 = List.set h_25 (34) (.inr (4, [.ref 35, .ref 36, .ref 43, .ref 44, .ref 45, .ref 46, .int (0), .int (0), .int (sx), .int (0), .int (0), .ref 47, .ref 48, .ref 49, .ref 50, .ref 51, .int (0)])) := ⟨_, rfl⟩
  refine pw_put rfl d_Rock_init_123 (fp_Rock_66 _) (zg_eq eh_25 (zg_eq eh_24 (zp_ne eph_23 (zg_eq eh_22 (zp_ne eph_21 (zg_eq eh_20 (zp_ne eph_19 (zg_eq eh_18 (zp_ne eph_17 (zg_eq eh_16 (zp_ne eph_15 (zg_eq eh_14 (zg_eq eh_13 (zg_eq eh_12 (zp_ne eph_11 (zg_eq eh_10 (zp_ne eph_9 (zg_eq eh_8 (zp_ne eph_7 (zg_eq eh_6 (zp_ne eph_5 (zg_eq eh_4 (zlow_at hz9 (by decide) (zp_ne eph_3 (zg_eq eh_2 (zp_ne eph_1 hk)))))))))))))))))))))))))) (Nat.le_of_ble_eq_true rfl) (fun _ => ⟨rfl, rfl⟩) eh_26.symm ?_
  refine pw_aload_n d_Rock_init_126 rfl rfl ?_
  refine pw_iload_n d_Rock_init_127 rfl rfl ?_
  obtain ⟨h_27, eh_27⟩ : ∃ x_9, x_9 = List.set h_26 (34) (.inr (4, [.ref 35, .ref 36, .ref 43, .ref 44, .ref 45, .ref 46, .int (0), .int (0), .int (sx), .int (sy), .int (0), .ref 47, .ref 48, .ref 49, .ref 50, .ref 51, .int (0)])) := ⟨_, rfl⟩
  refine pw_put rfl d_Rock_init_128 (fp_Rock_69 _) (zg_eq eh_26 (zg_eq eh_25 (zg_eq eh_24 (zp_ne eph_23 (zg_eq eh_22 (zp_ne eph_21 (zg_eq eh_20 (zp_ne eph_19 (zg_eq eh_18 (zp_ne eph_17 (zg_eq eh_16 (zp_ne eph_15 (zg_eq eh_14 (zg_eq eh_13 (zg_eq eh_12 (zp_ne eph_11 (zg_eq eh_10 (zp_ne eph_9 (zg_eq eh_8 (zp_ne eph_7 (zg_eq eh_6 (zp_ne eph_5 (zg_eq eh_4 (zlow_at hz9 (by decide) (zp_ne eph_3 (zg_eq eh_2 (zp_ne eph_1 hk))))))))))))))))))))))))))) (Nat.le_of_ble_eq_true rfl) (fun _ => ⟨rfl, rfl⟩) eh_27.symm ?_
  refine pw_aload_n d_Rock_init_131 rfl rfl ?_
  refine pw_iload_n d_Rock_init_132 rfl rfl ?_
  obtain ⟨h_28, eh_28⟩ : ∃ x_9, x_9 = List.set h_27 (34) (.inr (4, [.ref 35, .ref 36, .ref 43, .ref 44, .ref 45, .ref 46, .int (0), .int (0), .int (sx), .int (sy), .int (sz), .ref 47, .ref 48, .ref 49, .ref 50, .ref 51, .int (0)])) := ⟨_, rfl⟩
  refine pw_put rfl d_Rock_init_133 (fp_Rock_72 _) (zg_eq eh_27 (zg_eq eh_26 (zg_eq eh_25 (zg_eq eh_24 (zp_ne eph_23 (zg_eq eh_22 (zp_ne eph_21 (zg_eq eh_20 (zp_ne eph_19 (zg_eq eh_18 (zp_ne eph_17 (zg_eq eh_16 (zp_ne eph_15 (zg_eq eh_14 (zg_eq eh_13 (zg_eq eh_12 (zp_ne eph_11 (zg_eq eh_10 (zp_ne eph_9 (zg_eq eh_8 (zp_ne eph_7 (zg_eq eh_6 (zp_ne eph_5 (zg_eq eh_4 (zlow_at hz9 (by decide) (zp_ne eph_3 (zg_eq eh_2 (zp_ne eph_1 hk)))))))))))))))))))))))))))) (Nat.le_of_ble_eq_true rfl) (fun _ => ⟨rfl, rfl⟩) eh_28.symm ?_
  refine pw_iconst (x := 0) d_Rock_init_136 (by decide) ?_
  refine pw_istore d_Rock_init_137 (by decide) (pl' := [some (.ref 34), some (.int (sx)), some (.int (sy)), some (.int (sz)), some (.int (0))]) rfl ?_
  exact pw_widen (nc' := 17 + 2 * 0) (ns' := 1830 + 5 * 0) (by decide) (by decide) (l_rini (h0 := h) hx hy hz 13 0 h_28 (by decide) (by decide) (zs_ln eh_28 (zs_ln eh_27 (zs_ln eh_26 (zs_ln eh_25 (zs_ln eh_24 (zp_ln eph_23 (zs_ln eh_22 (zp_ln eph_21 (zs_ln eh_20 (zp_ln eph_19 (zs_ln eh_18 (zp_ln eph_17 (zs_ln eh_16 (zp_ln eph_15 (zs_ln eh_14 (zs_ln eh_13 (zs_ln eh_12 (zp_ln eph_11 (zs_ln eh_10 (zp_ln eph_9 (zs_ln eh_8 (zp_ln eph_7 (zs_ln eh_6 (zp_ln eph_5 (zs_ln eh_4 hl9))))))))))))))))))))))))) ⟨(zg_eq eh_28 (zg_eq eh_27 (zg_eq eh_26 (zg_eq eh_25 (zg_eq eh_24 (zp_ne eph_23 (zg_eq eh_22 (zp_ne eph_21 (zg_eq eh_20 (zp_ne eph_19 (zg_eq eh_18 (zp_ne eph_17 (zg_eq eh_16 (zp_ne eph_15 (zg_eq eh_14 (zg_eq eh_13 (zg_eq eh_12 (zp_ne eph_11 (zg_eq eh_10 (zp_ne eph_9 (zg_eq eh_8 (zp_ne eph_7 (zg_eq eh_6 (zp_ne eph_5 (zg_eq eh_4 (zlow_at hz9 (by decide) (zp_ne eph_3 (zg_eq eh_2 (zp_ne eph_1 hk))))))))))))))))))))))))))))), (zg_ne eh_28 (by decide) (zg_ne eh_27 (by decide) (zg_ne eh_26 (by decide) (zg_ne eh_25 (by decide) (zg_ne eh_24 (by decide) (zp_ne eph_23 (zg_ne eh_22 (by decide) (zp_ne eph_21 (zg_ne eh_20 (by decide) (zp_ne eph_19 (zg_ne eh_18 (by decide) (zp_ne eph_17 (zg_ne eh_16 (by decide) (zp_ne eph_15 (zg_ne eh_14 (by decide) (zg_ne eh_13 (by decide) (zg_ne eh_12 (by decide) (zp_ne eph_11 (zg_ne eh_10 (by decide) (zp_ne eph_9 (zg_ne eh_8 (by decide) (zp_ne eph_7 (zg_ne eh_6 (by decide) (zp_eq eph_5 (zs_ln eh_4 hl9))))))))))))))))))))))))), (zg_ne eh_28 (by decide) (zg_ne eh_27 (by decide) (zg_ne eh_26 (by decide) (zg_ne eh_25 (by decide) (zg_ne eh_24 (by decide) (zp_ne eph_23 (zg_ne eh_22 (by decide) (zp_ne eph_21 (zg_ne eh_20 (by decide) (zp_ne eph_19 (zg_ne eh_18 (by decide) (zp_ne eph_17 (zg_ne eh_16 (by decide) (zp_ne eph_15 (zg_ne eh_14 (by decide) (zg_ne eh_13 (by decide) (zg_ne eh_12 (by decide) (zp_ne eph_11 (zg_ne eh_10 (by decide) (zp_ne eph_9 (zg_ne eh_8 (by decide) (zp_eq eph_7 (zs_ln eh_6 (zp_ln eph_5 (zs_ln eh_4 hl9))))))))))))))))))))))))), (zg_ne eh_28 (by decide) (zg_ne eh_27 (by decide) (zg_ne eh_26 (by decide) (zg_ne eh_25 (by decide) (zg_ne eh_24 (by decide) (zp_ne eph_23 (zg_ne eh_22 (by decide) (zp_ne eph_21 (zg_ne eh_20 (by decide) (zp_ne eph_19 (zg_ne eh_18 (by decide) (zp_ne eph_17 (zg_ne eh_16 (by decide) (zp_ne eph_15 (zg_ne eh_14 (by decide) (zg_ne eh_13 (by decide) (zg_ne eh_12 (by decide) (zp_ne eph_11 (zg_ne eh_10 (by decide) (zp_eq eph_9 (zs_ln eh_8 (zp_ln eph_7 (zs_ln eh_6 (zp_ln eph_5 (zs_ln eh_4 hl9))))))))))))))))))))))))), (zg_ne eh_28 (by decide) (zg_ne eh_27 (by decide) (zg_ne eh_26 (by decide) (zg_ne eh_25 (by decide) (zg_ne eh_24 (by decide) (zp_ne eph_23 (zg_ne eh_22 (by decide) (zp_ne eph_21 (zg_ne eh_20 (by decide) (zp_ne eph_19 (zg_ne eh_18 (by decide) (zp_ne eph_17 (zg_ne eh_16 (by decide) (zp_ne eph_15 (zg_ne eh_14 (by decide) (zg_ne eh_13 (by decide) (zg_ne eh_12 (by decide) (zp_eq eph_11 (zs_ln eh_10 (zp_ln eph_9 (zs_ln eh_8 (zp_ln eph_7 (zs_ln eh_6 (zp_ln eph_5 (zs_ln eh_4 hl9))))))))))))))))))))))))), (zg_ne eh_28 (by decide) (zg_ne eh_27 (by decide) (zg_ne eh_26 (by decide) (zg_ne eh_25 (by decide) (zg_ne eh_24 (by decide) (zp_ne eph_23 (zg_ne eh_22 (by decide) (zp_ne eph_21 (zg_ne eh_20 (by decide) (zp_ne eph_19 (zg_ne eh_18 (by decide) (zp_ne eph_17 (zg_ne eh_16 (by decide) (zp_eq eph_15 (zs_ln eh_14 (zs_ln eh_13 (zs_ln eh_12 (zp_ln eph_11 (zs_ln eh_10 (zp_ln eph_9 (zs_ln eh_8 (zp_ln eph_7 (zs_ln eh_6 (zp_ln eph_5 (zs_ln eh_4 hl9))))))))))))))))))))))))), (zg_ne eh_28 (by decide) (zg_ne eh_27 (by decide) (zg_ne eh_26 (by decide) (zg_ne eh_25 (by decide) (zg_ne eh_24 (by decide) (zp_ne eph_23 (zg_ne eh_22 (by decide) (zp_ne eph_21 (zg_ne eh_20 (by decide) (zp_ne eph_19 (zg_ne eh_18 (by decide) (zp_eq eph_17 (zs_ln eh_16 (zp_ln eph_15 (zs_ln eh_14 (zs_ln eh_13 (zs_ln eh_12 (zp_ln eph_11 (zs_ln eh_10 (zp_ln eph_9 (zs_ln eh_8 (zp_ln eph_7 (zs_ln eh_6 (zp_ln eph_5 (zs_ln eh_4 hl9)))))))))))))))))))))))))⟩ ⟨(zg_ne eh_28 (by decide) (zg_ne eh_27 (by decide) (zg_ne eh_26 (by decide) (zg_ne eh_25 (by decide) (zg_ne eh_24 (by decide) (zp_ne eph_23 (zg_ne eh_22 (by decide) (zp_ne eph_21 (zg_ne eh_20 (by decide) (zp_ne eph_19 (zg_ne eh_18 (by decide) (zp_ne eph_17 (zg_ne eh_16 (by decide) (zp_ne eph_15 (zg_ne eh_14 (by decide) (zg_ne eh_13 (by decide) (zg_ne eh_12 (by decide) (zp_ne eph_11 (zg_ne eh_10 (by decide) (zp_ne eph_9 (zg_ne eh_8 (by decide) (zp_ne eph_7 (zg_ne eh_6 (by decide) (zp_ne eph_5 (zg_ne eh_4 (by decide) hp9.1))))))))))))))))))))))))), (zg_ne eh_28 (by decide) (zg_ne eh_27 (by decide) (zg_ne eh_26 (by decide) (zg_ne eh_25 (by decide) (zg_ne eh_24 (by decide) (zp_ne eph_23 (zg_ne eh_22 (by decide) (zp_ne eph_21 (zg_ne eh_20 (by decide) (zp_ne eph_19 (zg_ne eh_18 (by decide) (zp_ne eph_17 (zg_ne eh_16 (by decide) (zp_ne eph_15 (zg_ne eh_14 (by decide) (zg_ne eh_13 (by decide) (zg_ne eh_12 (by decide) (zp_ne eph_11 (zg_ne eh_10 (by decide) (zp_ne eph_9 (zg_ne eh_8 (by decide) (zp_ne eph_7 (zg_ne eh_6 (by decide) (zp_ne eph_5 (zg_ne eh_4 (by decide) hp9.2.1))))))))))))))))))))))))), (zg_ne eh_28 (by decide) (zg_ne eh_27 (by decide) (zg_ne eh_26 (by decide) (zg_ne eh_25 (by decide) (zg_ne eh_24 (by decide) (zp_ne eph_23 (zg_ne eh_22 (by decide) (zp_ne eph_21 (zg_ne eh_20 (by decide) (zp_ne eph_19 (zg_ne eh_18 (by decide) (zp_ne eph_17 (zg_ne eh_16 (by decide) (zp_ne eph_15 (zg_ne eh_14 (by decide) (zg_ne eh_13 (by decide) (zg_ne eh_12 (by decide) (zp_ne eph_11 (zg_ne eh_10 (by decide) (zp_ne eph_9 (zg_ne eh_8 (by decide) (zp_ne eph_7 (zg_ne eh_6 (by decide) (zp_ne eph_5 (zg_ne eh_4 (by decide) hp9.2.2.1))))))))))))))))))))))))), (zg_ne eh_28 (by decide) (zg_ne eh_27 (by decide) (zg_ne eh_26 (by decide) (zg_ne eh_25 (by decide) (zg_ne eh_24 (by decide) (zp_ne eph_23 (zg_ne eh_22 (by decide) (zp_ne eph_21 (zg_ne eh_20 (by decide) (zp_ne eph_19 (zg_ne eh_18 (by decide) (zp_ne eph_17 (zg_ne eh_16 (by decide) (zp_ne eph_15 (zg_ne eh_14 (by decide) (zg_ne eh_13 (by decide) (zg_ne eh_12 (by decide) (zp_ne eph_11 (zg_ne eh_10 (by decide) (zp_ne eph_9 (zg_ne eh_8 (by decide) (zp_ne eph_7 (zg_ne eh_6 (by decide) (zp_ne eph_5 (zg_ne eh_4 (by decide) hp9.2.2.2.1))))))))))))))))))))))))), (zg_ne eh_28 (by decide) (zg_ne eh_27 (by decide) (zg_ne eh_26 (by decide) (zg_ne eh_25 (by decide) (zg_ne eh_24 (by decide) (zp_ne eph_23 (zg_ne eh_22 (by decide) (zp_ne eph_21 (zg_ne eh_20 (by decide) (zp_ne eph_19 (zg_ne eh_18 (by decide) (zp_ne eph_17 (zg_ne eh_16 (by decide) (zp_ne eph_15 (zg_ne eh_14 (by decide) (zg_ne eh_13 (by decide) (zg_ne eh_12 (by decide) (zp_ne eph_11 (zg_ne eh_10 (by decide) (zp_ne eph_9 (zg_ne eh_8 (by decide) (zp_ne eph_7 (zg_ne eh_6 (by decide) (zp_ne eph_5 (zg_ne eh_4 (by decide) hp9.2.2.2.2.1))))))))))))))))))))))))), (zg_ne eh_28 (by decide) (zg_ne eh_27 (by decide) (zg_ne eh_26 (by decide) (zg_ne eh_25 (by decide) (zg_ne eh_24 (by decide) (zp_ne eph_23 (zg_ne eh_22 (by decide) (zp_ne eph_21 (zg_ne eh_20 (by decide) (zp_ne eph_19 (zg_ne eh_18 (by decide) (zp_ne eph_17 (zg_ne eh_16 (by decide) (zp_ne eph_15 (zg_ne eh_14 (by decide) (zg_ne eh_13 (by decide) (zg_ne eh_12 (by decide) (zp_ne eph_11 (zg_ne eh_10 (by decide) (zp_ne eph_9 (zg_ne eh_8 (by decide) (zp_ne eph_7 (zg_ne eh_6 (by decide) (zp_ne eph_5 (zg_ne eh_4 (by decide) hp9.2.2.2.2.2.1))))))))))))))))))))))))), (zg_ne eh_28 (by decide) (zg_ne eh_27 (by decide) (zg_ne eh_26 (by decide) (zg_ne eh_25 (by decide) (zg_ne eh_24 (by decide) (zp_ne eph_23 (zg_ne eh_22 (by decide) (zp_ne eph_21 (zg_ne eh_20 (by decide) (zp_ne eph_19 (zg_ne eh_18 (by decide) (zp_ne eph_17 (zg_ne eh_16 (by decide) (zp_ne eph_15 (zg_ne eh_14 (by decide) (zg_ne eh_13 (by decide) (zg_ne eh_12 (by decide) (zp_ne eph_11 (zg_ne eh_10 (by decide) (zp_ne eph_9 (zg_ne eh_8 (by decide) (zp_ne eph_7 (zg_ne eh_6 (by decide) (zp_ne eph_5 (zg_ne eh_4 (by decide) hp9.2.2.2.2.2.2)))))))))))))))))))))))))⟩ ⟨⟨0, 0, 0, (zg_ne eh_28 (by decide) (zg_ne eh_27 (by decide) (zg_ne eh_26 (by decide) (zg_ne eh_25 (by decide) (zg_ne eh_24 (by decide) (zp_ne eph_23 (zg_ne eh_22 (by decide) (zp_ne eph_21 (zg_ne eh_20 (by decide) (zp_eq eph_19 (zs_ln eh_18 (zp_ln eph_17 (zs_ln eh_16 (zp_ln eph_15 (zs_ln eh_14 (zs_ln eh_13 (zs_ln eh_12 (zp_ln eph_11 (zs_ln eh_10 (zp_ln eph_9 (zs_ln eh_8 (zp_ln eph_7 (zs_ln eh_6 (zp_ln eph_5 (zs_ln eh_4 hl9)))))))))))))))))))))))))⟩, ⟨0, 0, 0, (zg_ne eh_28 (by decide) (zg_ne eh_27 (by decide) (zg_ne eh_26 (by decide) (zg_ne eh_25 (by decide) (zg_ne eh_24 (by decide) (zp_ne eph_23 (zg_ne eh_22 (by decide) (zp_eq eph_21 (zs_ln eh_20 (zp_ln eph_19 (zs_ln eh_18 (zp_ln eph_17 (zs_ln eh_16 (zp_ln eph_15 (zs_ln eh_14 (zs_ln eh_13 (zs_ln eh_12 (zp_ln eph_11 (zs_ln eh_10 (zp_ln eph_9 (zs_ln eh_8 (zp_ln eph_7 (zs_ln eh_6 (zp_ln eph_5 (zs_ln eh_4 hl9)))))))))))))))))))))))))⟩, ⟨0, 0, 0, (zg_ne eh_28 (by decide) (zg_ne eh_27 (by decide) (zg_ne eh_26 (by decide) (zg_ne eh_25 (by decide) (zg_ne eh_24 (by decide) (zp_eq eph_23 (zs_ln eh_22 (zp_ln eph_21 (zs_ln eh_20 (zp_ln eph_19 (zs_ln eh_18 (zp_ln eph_17 (zs_ln eh_16 (zp_ln eph_15 (zs_ln eh_14 (zs_ln eh_13 (zs_ln eh_12 (zp_ln eph_11 (zs_ln eh_10 (zp_ln eph_9 (zs_ln eh_8 (zp_ln eph_7 (zs_ln eh_6 (zp_ln eph_5 (zs_ln eh_4 hl9)))))))))))))))))))))))))⟩⟩ (by rw [← zUp_0]; exact (zg_ne eh_28 (by decide) (zg_ne eh_27 (by decide) (zg_ne eh_26 (by decide) (zg_ne eh_25 (by decide) (zg_ne eh_24 (by decide) (zp_ne eph_23 (zg_ne eh_22 (by decide) (zp_ne eph_21 (zg_ne eh_20 (by decide) (zp_ne eph_19 (zg_ne eh_18 (by decide) (zp_ne eph_17 (zg_ne eh_16 (by decide) (zp_ne eph_15 (zg_ne eh_14 (by decide) (zg_ne eh_13 (by decide) (zg_ne eh_12 (by decide) (zp_ne eph_11 (zg_ne eh_10 (by decide) (zp_ne eph_9 (zg_ne eh_8 (by decide) (zp_ne eph_7 (zg_ne eh_6 (by decide) (zp_ne eph_5 (zg_ne eh_4 (by decide) (zlow_at hz9 (by decide) (zp_ne eph_3 (zg_ne eh_2 (by decide) (zp_eq eph_1 hl)))))))))))))))))))))))))))))) (fun j hj => absurd hj (Nat.not_lt_zero _)) (fun j hj => absurd hj (Nat.not_lt_zero _)) (zlow_s (zlow_s (zlow_s (zlow_s (zlow_s (zlow_p (zlow_s (zlow_p (zlow_s (zlow_p (zlow_s (zlow_p (zlow_s (zlow_p (zlow_s (zlow_s (zlow_s (zlow_p (zlow_s (zlow_p (zlow_s (zlow_p (zlow_s (zlow_p (zlow_s (zlow_tr (zlow_p (zlow_s (zlow_p zlow_rf eph_1 hl (by omega)) eh_2 (by omega)) eph_3 (zs_ln eh_2 (zp_ln eph_1 hl)) (by omega)) (zlow_w hz9 (by decide))) eh_4 (by omega)) eph_5 (zs_ln eh_4 hl9) (by omega)) eh_6 (by omega)) eph_7 (zs_ln eh_6 (zp_ln eph_5 (zs_ln eh_4 hl9))) (by omega)) eh_8 (by omega)) eph_9 (zs_ln eh_8 (zp_ln eph_7 (zs_ln eh_6 (zp_ln eph_5 (zs_ln eh_4 hl9))))) (by omega)) eh_10 (by omega)) eph_11 (zs_ln eh_10 (zp_ln eph_9 (zs_ln eh_8 (zp_ln eph_7 (zs_ln eh_6 (zp_ln eph_5 (zs_ln eh_4 hl9))))))) (by omega)) eh_12 (by omega)) eh_13 (by omega)) eh_14 (by omega)) eph_15 (zs_ln eh_14 (zs_ln eh_13 (zs_ln eh_12 (zp_ln eph_11 (zs_ln eh_10 (zp_ln eph_9 (zs_ln eh_8 (zp_ln eph_7 (zs_ln eh_6 (zp_ln eph_5 (zs_ln eh_4 hl9))))))))))) (by omega)) eh_16 (by omega)) eph_17 (zs_ln eh_16 (zp_ln eph_15 (zs_ln eh_14 (zs_ln eh_13 (zs_ln eh_12 (zp_ln eph_11 (zs_ln eh_10 (zp_ln eph_9 (zs_ln eh_8 (zp_ln eph_7 (zs_ln eh_6 (zp_ln eph_5 (zs_ln eh_4 hl9))))))))))))) (by omega)) eh_18 (by omega)) eph_19 (zs_ln eh_18 (zp_ln eph_17 (zs_ln eh_16 (zp_ln eph_15 (zs_ln eh_14 (zs_ln eh_13 (zs_ln eh_12 (zp_ln eph_11 (zs_ln eh_10 (zp_ln eph_9 (zs_ln eh_8 (zp_ln eph_7 (zs_ln eh_6 (zp_ln eph_5 (zs_ln eh_4 hl9))))))))))))))) (by omega)) eh_20 (by omega)) eph_21 (zs_ln eh_20 (zp_ln eph_19 (zs_ln eh_18 (zp_ln eph_17 (zs_ln eh_16 (zp_ln eph_15 (zs_ln eh_14 (zs_ln eh_13 (zs_ln eh_12 (zp_ln eph_11 (zs_ln eh_10 (zp_ln eph_9 (zs_ln eh_8 (zp_ln eph_7 (zs_ln eh_6 (zp_ln eph_5 (zs_ln eh_4 hl9))))))))))))))))) (by omega)) eh_22 (by omega)) eph_23 (zs_ln eh_22 (zp_ln eph_21 (zs_ln eh_20 (zp_ln eph_19 (zs_ln eh_18 (zp_ln eph_17 (zs_ln eh_16 (zp_ln eph_15 (zs_ln eh_14 (zs_ln eh_13 (zs_ln eh_12 (zp_ln eph_11 (zs_ln eh_10 (zp_ln eph_9 (zs_ln eh_8 (zp_ln eph_7 (zs_ln eh_6 (zp_ln eph_5 (zs_ln eh_4 hl9))))))))))))))))))) (by omega)) eh_24 (by omega)) eh_25 (by omega)) eh_26 (by omega)) eh_27 (by omega)) eh_28 (by omega)))
