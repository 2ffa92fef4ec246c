set_option maxRecDepth 20000 in
set_option maxHeartbeats 2000000 in
theorem l_mk2 {G : zG} {h0 : zH} {th : Int32} {jn dr pn bl tn : Nat} (hm0 : zMo h0 th jn dr pn bl tn) {ms ml pt : Nat → Int32} (h850 : h0[85]? = some (.inl (0, 3, .inl ms))) (h860 : h0[86]? = some (.inl (0, 48, .inl ml))) (h900 : h0[90]? = some (.inl (0, 880, .inl pt))) {i j k : Nat} {U : Nat → Int} {g : Int} (hs : ∀ c, c < 3 → zsz (ms c)) {q tu d : Int32} (hU : ∀ c, c < 3 → (tu * zdm ml i j k c).toInt = U c) (hdg : d.toInt = g) (hg0 : 0 < g) (hd0 : ¬ d = 0) (hdv : ∀ c, c < 4 → g ∣ U c) (hu3 : 0 ≤ U 3 / g ∧ U 3 / g ≤ 1296) {o8 : Option Value} {Q : zO → zH → Prop} (N : ∀ h, zsm [94] h0 h → (∃ mk, h[94]? = some (.inl (0, 4, .inl mk))) → ∀ c, c < 3 → ¬ (0 ≤ U c / g ∧ U c / g ≤ (ms c).toInt * (U 3 / g)) → Q (.inl none) h) (K : ∀ (h : zH) (mk : Nat → Int32), zsm [94] h0 h → h[94]? = some (.inl (0, 4, .inl mk)) → (∀ c, c < 4 → (mk c).toInt = U c / g) → (∀ c, c < 3 → (0 ≤ U c / g ∧ U c / g ≤ (ms c).toInt * (U 3 / g))) → PW G M_Md_make (zroom 2 0 0) false Q 161 [some (.ref 84), some (.int (nI i)), some (.int (nI j)), some (.int (nI k)), some (.int q), some (.int tu), some (.int d), some (.int (nI 3)), o8] [] h 0 0) : ∀ (n c : Nat) (h : zH) (mk : Nat → Int32), 3 - c < n → c ≤ 3 → zsm [94] h0 h → h[94]? = some (.inl (0, 4, .inl mk)) → (∀ e, e < c → (mk e).toInt = U e / g) → (∀ e, c ≤ e → e < 3 → mk e = zdm ml i j k e) → (mk 3).toInt = U 3 / g → (∀ c9, c9 < c → (0 ≤ U c9 / g ∧ U c9 / g ≤ (ms c9).toInt * (U 3 / g))) → PW G M_Md_make (zroom 2 0 0) false Q 94 [some (.ref 84), some (.int (nI i)), some (.int (nI j)), some (.int (nI k)), some (.int q), some (.int tu), some (.int d), some (.int (nI c)), o8] [] h 0 0 := by
  intro n
  induction n with
  | zero => intro c h mk hn; exact absurd hn (Nat.not_lt_zero _)
  | succ n ih =>
    intro c h mk hn hc hz h94 hm1 hm2 hm3 hbx
    have hm := zsm_at hz (by decide) hm0
    have h85 := zsm_at hz (by decide) h850
    have h86 := zsm_at hz (by decide) h860
    refine pw_iload d_Md_make_94 rfl ?_
    refine pw_iconst (x := 3) d_Md_make_96 (by decide) ?_
    refine pw_icmp_ge 161 d_Md_make_97 (by decide) (fun q_c => ?_) (fun q_c => ?_)
    · have hcc : c = 3 := by have := (nI_leI (a := 3) (b := c) (by decide) (by omega)).mp q_c; omega
      subst hcc
      exact K h mk hz h94 (fun e9 he9 => by rcases Nat.lt_succ_iff_lt_or_eq.mp he9 with h1 | rfl; exact hm1 e9 h1; exact hm3) hbx
    · have hcc : c < 3 := by have := mt (nI_leI (a := 3) (b := c) (by decide) (by omega)).mpr q_c; omega
      refine pw_aload_n d_Md_make_100 rfl rfl ?_
      refine pw_get d_Md_make_101 fl_Md_38 hm rfl ?_
      refine pw_iload d_Md_make_104 rfl ?_
      refine pw_iload d_Md_make_106 rfl ?_
      refine pw_aload_n d_Md_make_108 rfl rfl ?_
      refine pw_get d_Md_make_109 fl_Md_38 hm rfl ?_
      refine pw_iload d_Md_make_112 rfl ?_
      refine pw_iald d_Md_make_114 h94 rfl rfl (by omega) (by decide) ?_
      refine pw_imul d_Md_make_115 ?_
      refine pw_iload d_Md_make_116 rfl ?_
      refine pw_idiv d_Md_make_118 hd0 ?_
      obtain ⟨h_1, eh_1⟩ : ∃ x_9, x_9 = List.set h (94) (.inl (0, 4, .inl (upd mk c (((tu * mk c) / d))))) := ⟨_, rfl⟩
      refine pw_iast rfl d_Md_make_119 h94 rfl rfl (by omega) (by decide) eh_1.symm ?_
      have hmc : (tu * mk c / d).toInt = U c / g := zdivx (by rw [hm2 c (Nat.le_refl _) hcc]; exact hU c hcc) hdg hg0 (hdv c (by omega))
      have hpr : (ms c * upd mk c (tu * mk c / d) 3).toInt = (ms c).toInt * (U 3 / g) := by
        rw [pk_un (by omega)]
        have h1 := zbd_mul (zbd_self (M := 8) (by have := (hs c hcc).1; omega) (hs c hcc).2) (zbd_self (M := 1296) (a := mk 3) (by rw [hm3]; omega) (by rw [hm3]; omega)) (by decide)
        rw [h1.1, hm3]
      refine pw_aload_n d_Md_make_120 rfl rfl ?_
      refine pw_get d_Md_make_121 fl_Md_38 (zg_ne eh_1 (by decide) hm) rfl ?_
      refine pw_iload d_Md_make_124 rfl ?_
      refine pw_iald d_Md_make_126 (zg_eq eh_1 h94) rfl rfl (by omega) (by decide) ?_
      refine pw_if_lt 154 d_Md_make_127 (by decide) (fun q_l => ?_) (fun q_l => ?_)
      · refine pw_return d_Md_make_154 rfl (by decide) (by decide) ?_
        exact N _ (zsm_st hz eh_1 (by decide)) ⟨_, zg_eq eh_1 h94⟩ c hcc (fun z => absurd z.1 (by have := Int32.lt_iff_toInt_lt.mp q_l; rw [pk_us, hmc] at this; exact Int.not_le.mpr this))
      · refine pw_aload_n d_Md_make_130 rfl rfl ?_
        refine pw_get d_Md_make_131 fl_Md_38 (zg_ne eh_1 (by decide) hm) rfl ?_
        refine pw_iload d_Md_make_134 rfl ?_
        refine pw_iald d_Md_make_136 (zg_eq eh_1 h94) rfl rfl (by omega) (by decide) ?_
        refine pw_aload_n d_Md_make_137 rfl rfl ?_
        refine pw_get d_Md_make_138 fl_Md_7 (zg_ne eh_1 (by decide) hm) rfl ?_
        refine pw_iload d_Md_make_141 rfl ?_
        refine pw_iald d_Md_make_143 (zg_ne eh_1 (by decide) h85) rfl rfl (by omega) (by decide) ?_
        refine pw_aload_n d_Md_make_144 rfl rfl ?_
        refine pw_get d_Md_make_145 fl_Md_38 (zg_ne eh_1 (by decide) hm) rfl ?_
        refine pw_iconst (x := 3) d_Md_make_148 (by decide) ?_
        refine pw_iald d_Md_make_149 (zg_eq eh_1 h94) rfl rfl (by decide) (by decide) ?_
        refine pw_imul d_Md_make_150 ?_
        refine pw_icmp_le 155 d_Md_make_151 (by decide) (fun q_m => ?_) (fun q_m => ?_)
        · refine pw_iinc (y := nI (c + 1)) d_Md_make_155 rfl (nI_1 c) (by decide) (pl' := [some (.ref 84), some (.int (nI i)), some (.int (nI j)), some (.int (nI k)), some (.int (q)), some (.int (tu)), some (.int (d)), some (.int (nI (c + 1))), o8]) rfl ?_
          refine pw_goto 94 d_Md_make_158 (by decide) ?_
          refine ih (c + 1) _ _ (by omega) (by omega) (zsm_st hz eh_1 (by decide)) (zg_eq eh_1 h94) (fun e9 he9 => ?_) (fun e9 h1 h2 => ?_) ?_ (fun e9 he9 => ?_)
          · rcases Nat.lt_succ_iff_lt_or_eq.mp he9 with h1 | rfl
            · rw [pk_un (by omega)]; exact hm1 e9 h1
            · rw [pk_us]; exact hmc
          · rw [pk_un (by omega)]; exact hm2 e9 (by omega) h2
          · rw [pk_un (by omega)]; exact hm3
          · rcases Nat.lt_succ_iff_lt_or_eq.mp he9 with h1 | rfl
            · exact hbx e9 h1
            · have a1 := mt Int32.lt_iff_toInt_lt.mpr q_l
              have a2 := Int32.le_iff_toInt_le.mp q_m
              rw [pk_us, hmc] at a1
              rw [pk_us, hmc, hpr] at a2
              exact ⟨Int.not_lt.mp a1, a2⟩
        · refine pw_return d_Md_make_154 rfl (by decide) (by decide) ?_
          exact N _ (zsm_st hz eh_1 (by decide)) ⟨_, zg_eq eh_1 h94⟩ c hcc (fun z => absurd z.2 (by have := mt Int32.le_iff_toInt_le.mpr q_m; rw [pk_us, hmc, hpr] at this; exact this))
set_option maxRecDepth 20000 in
set_option maxHeartbeats 2000000 in
theorem l_mk3 {G : zG} {h : zH} {th : Int32} {jn dr pn bl tn : Nat} (hm : zMo h th jn dr pn bl tn) {pt mk : Nat → Int32} (h90 : h[90]? = some (.inl (0, 880, .inl pt))) (h94 : h[94]? = some (.inl (0, 4, .inl mk))) (hpn : pn < 220) {i j k : Nat} {q tu d : Int32} {o8 : Option Value} {Q : zO → zH → Prop} (K : ∀ a, a ≤ pn → (∀ r, a ≤ r → r < pn → ∃ t, zOr mk pt r t ∧ t < 0) → (∀ b, a = b + 1 → ∃ t, zOr mk pt b t ∧ ¬ t < 0) → PW G M_Md_make (zroom 2 0 0) false Q 189 [some (.ref 84), some (.int (nI i)), some (.int (nI j)), some (.int (nI k)), some (.int q), some (.int tu), some (.int d), some (.int (nI a)), o8] [] h 0 0) : ∀ a, a ≤ pn → (∀ r, a ≤ r → r < pn → ∃ t, zOr mk pt r t ∧ t < 0) → PW G M_Md_make (zroom 2 0 0) false Q 167 [some (.ref 84), some (.int (nI i)), some (.int (nI j)), some (.int (nI k)), some (.int q), some (.int tu), some (.int d), some (.int (nI a)), o8] [] h 0 0 := by
  intro a
  induction a with
  | zero =>
    intro hap hv
    refine pw_iload d_Md_make_167 rfl ?_
    refine pw_if_le 189 d_Md_make_169 (by decide) (fun _ => ?_) (fun q => absurd (show nI 0 ≤ 0 by decide) q)
    exact K 0 hap hv (fun b e => by cases e)
  | succ a ih =>
    intro hap hv
    refine pw_iload d_Md_make_167 rfl ?_
    refine pw_if_le 189 d_Md_make_169 (by decide) (fun q => absurd q (nI_nle (by omega) (by omega))) (fun _ => ?_)
    refine pw_aload_n d_Md_make_172 rfl rfl ?_
    refine pw_iload d_Md_make_173 rfl ?_
    refine pw_iconst (x := 1) d_Md_make_175 (by decide) ?_
    refine pw_isub d_Md_make_176 ?_
    rw [nI_pred a]
    refine pw_callVt (R' := (zroom 0 0 0)) [.int (nI a)] (fun q => nomatch q) d_Md_make_177 lk_Md_97 hm rfl rfl rfl (c_orderP (p := a) hm h90 h94 (by omega)) (fun t ht => ?_)
    refine pw_if_ge 189 d_Md_make_180 (by decide) (fun q_t => ?_) (fun q_t => ?_)
    · exact K (a + 1) hap hv (fun a9 e9 => by cases e9; exact ⟨t, ht, zlt.mpr q_t⟩)
    · refine pw_iinc (y := nI a) d_Md_make_183 rfl (pk_m1 a) (by decide) (pl' := [some (.ref 84), some (.int (nI i)), some (.int (nI j)), some (.int (nI k)), some (.int (q)), some (.int (tu)), some (.int (d)), some (.int (nI a)), o8]) rfl ?_
      refine pw_goto 167 d_Md_make_186 (by decide) ?_
      exact ih (by omega) (fun r h1 h2 => by rcases Nat.eq_or_lt_of_le h1 with h3 | h3; exact h3 ▸ ⟨t, ht, zle.mp q_t⟩; exact hv r h3 h2)
theorem n1m (x : Int32) : x + (-1) = x - 1 := by rw [Int32.sub_eq_add_neg]
theorem z41 {a : Nat} (h : a < 1000) : nI 0 - 1 < 4 * nI a := by
  rw [n40, Int32.lt_iff_toInt_lt, nI_toInt (by omega)]
  have : (nI 0 - 1).toInt = -1 := by decide
  omega
theorem z42 {m a : Nat} (hm : m < 1000) (h : a < 1000) : nI (m + 1) - 1 < 4 * nI a ↔ m < 4 * a := by
  rw [nI_pred, n40, Int32.lt_iff_toInt_lt, nI_toInt (by omega), nI_toInt (by omega)]
  omega
set_option maxRecDepth 20000 in
set_option maxHeartbeats 2000000 in
theorem l_mk4 {G : zG} {h0 : zH} {th : Int32} {jn dr pn bl tn : Nat} (hm0 : zMo h0 th jn dr pn bl tn) (hpn : pn < 220) {pt : Nat → Int32} {i j k a : Nat} (ha : a ≤ pn) {q tu d : Int32} {Q : zO → zH → Prop} (K : ∀ (h : zH) (v : Int32), zsm [90] h0 h → h[90]? = some (.inl (0, 880, .inl (zsh pt pn (4 * a)))) → PW G M_Md_make (zroom 2 0 0) false Q 247 [some (.ref 84), some (.int (nI i)), some (.int (nI j)), some (.int (nI k)), some (.int q), some (.int tu), some (.int d), some (.int (nI a)), some (.int v)] [] h 0 0) : ∀ (n m : Nat) (h : zH), m < n → m ≤ 4 * pn → 4 * a ≤ m → zsm [90] h0 h → h[90]? = some (.inl (0, 880, .inl (zsh pt pn m))) → PW G M_Md_make (zroom 2 0 0) false Q 216 [some (.ref 84), some (.int (nI i)), some (.int (nI j)), some (.int (nI k)), some (.int q), some (.int tu), some (.int d), some (.int (nI a)), some (.int (nI m - 1))] [] h 0 0 := by
  intro n
  induction n with
  | zero => intro m h hn; exact absurd hn (Nat.not_lt_zero _)
  | succ n ih =>
    intro m h hn hmp ham hz h90
    have hm := zsm_at hz (by decide) hm0
    refine pw_iload d_Md_make_216 rfl ?_
    refine pw_iconst (x := 4) d_Md_make_218 (by decide) ?_
    refine pw_iload d_Md_make_219 rfl ?_
    refine pw_imul d_Md_make_221 ?_
    refine pw_icmp_lt 247 d_Md_make_222 (by decide) (fun q_c => ?_) (fun q_c => ?_)
    · have hma : m = 4 * a := by
        rcases Nat.eq_zero_or_pos m with h1 | h1
        · omega
        · obtain ⟨x, rfl⟩ : ∃ x, m = x + 1 := ⟨m - 1, by omega⟩
          have := (z42 (m := x) (a := a) (by omega) (by omega)).mp q_c
          omega
      subst hma
      exact K h _ hz h90
    · obtain ⟨m9, rfl⟩ : ∃ x, m = x + 1 := ⟨m - 1, by rcases Nat.eq_zero_or_pos m with h1 | h1; subst h1; exact absurd (z41 (a := a) (by omega)) q_c; omega⟩
      have hm9 : 4 * a ≤ m9 := by have := mt (z42 (m := m9) (a := a) (by omega) (by omega)).mpr q_c; omega
      rw [nI_pred m9]
      refine pw_aload_n d_Md_make_225 rfl rfl ?_
      refine pw_get d_Md_make_226 fl_Md_26 hm rfl ?_
      refine pw_iload d_Md_make_229 rfl ?_
      refine pw_iconst (x := 4) d_Md_make_231 (by decide) ?_
      refine pw_iadd d_Md_make_232 ?_
      refine pw_aload_n d_Md_make_233 rfl rfl ?_
      refine pw_get d_Md_make_234 fl_Md_26 hm rfl ?_
      refine pw_iload d_Md_make_237 rfl ?_
      refine pw_iald d_Md_make_239 h90 rfl rfl (by omega) (by decide) ?_
      obtain ⟨h_1, eh_1⟩ : ∃ x_9, x_9 = List.set h (90) (.inl (0, 880, .inl (upd (zsh pt pn (m9 + 1)) (m9 + 4) ((zsh pt pn (m9 + 1)) m9)))) := ⟨_, rfl⟩
      refine pw_iast rfl d_Md_make_240 h90 rfl (nI_add m9 4) (by omega) (by decide) eh_1.symm ?_
      refine pw_iinc (y := nI m9 - 1) d_Md_make_241 rfl (n1m (nI m9)) (by decide) (pl' := [some (.ref 84), some (.int (nI i)), some (.int (nI j)), some (.int (nI k)), some (.int (q)), some (.int (tu)), some (.int (d)), some (.int (nI a)), some (.int (nI m9 - 1))]) rfl ?_
      refine pw_goto 216 d_Md_make_244 (by decide) ?_
      refine ih m9 _ (by omega) (by omega) (by omega) (zsm_st hz eh_1 (by decide)) ?_
      rw [← zsh_s (show m9 < 4 * pn by omega)]
      exact zg_eq eh_1 h90
set_option maxRecDepth 20000 in
set_option maxHeartbeats 2000000 in
theorem l_mk5 {G : zG} {h0 : zH} {th : Int32} {jn dr pn bl tn : Nat} (hm0 : zMo h0 th jn dr pn bl tn) (hpn : pn < 220) {pt mk : Nat → Int32} (h940 : h0[94]? = some (.inl (0, 4, .inl mk))) {i j k a : Nat} (ha : a ≤ pn) {q tu d : Int32} {Q : zO → zH → Prop} (K : ∀ h, zsm [84, 90] h0 h → zMo h th jn dr (pn + 1) bl tn → h[90]? = some (.inl (0, 880, .inl (zins mk pt a pn))) → Q (.inl none) h) : ∀ (n c : Nat) (h : zH), 4 - c < n → c ≤ 4 → zsm [90] h0 h → h[90]? = some (.inl (0, 880, .inl (zas mk pt a pn c))) → PW G M_Md_make (zroom 2 0 0) false Q 250 [some (.ref 84), some (.int (nI i)), some (.int (nI j)), some (.int (nI k)), some (.int q), some (.int tu), some (.int d), some (.int (nI a)), some (.int (nI c))] [] h 0 0 := by
  intro n
  induction n with
  | zero => intro c h hn; exact absurd hn (Nat.not_lt_zero _)
  | succ n ih =>
    intro c h hn hc hz h90
    have hm := zsm_at hz (by decide) hm0
    have h94 := zsm_at hz (by decide) h940
    refine pw_iload d_Md_make_250 rfl ?_
    refine pw_iconst (x := 4) d_Md_make_252 (by decide) ?_
    refine pw_icmp_ge 281 d_Md_make_253 (by decide) (fun q_c => ?_) (fun q_c => ?_)
    · have hcc : c = 4 := by have := (nI_leI (a := 4) (b := c) (by decide) (by omega)).mp q_c; omega
      subst hcc
      refine pw_aload_n d_Md_make_281 rfl rfl ?_
      refine pw_dup d_Md_make_282 rfl ?_
      refine pw_get d_Md_make_283 fl_Md_94 hm rfl ?_
      refine pw_iconst (x := 1) d_Md_make_286 (by decide) ?_
      refine pw_iadd d_Md_make_287 ?_
      obtain ⟨h_1, eh_1⟩ : ∃ x_9, x_9 = List.set h (84) (.inr (6, [.int (th), .ref 85, .int (nI jn), .ref 86, .ref 87, .int (nI dr), .ref 88, .ref 89, .int ((nI pn + 1)), .ref 90, .ref 91, .ref 92, .ref 93, .ref 94, .int (nI bl), .ref 95, .ref 96, .ref 97, .int (nI tn), .ref 98, .ref 99, .ref 100, .ref 101, .ref 102, .ref 103])) := ⟨_, rfl⟩
      refine pw_put rfl d_Md_make_288 (fp_Md_94 _ _) hm (Nat.le_of_ble_eq_true rfl) (fun _ => ⟨rfl, rfl⟩) eh_1.symm ?_
      refine pw_return d_Md_make_291 rfl (by decide) (by decide) ?_
      rw [zas_4 ha] at h90
      exact K _ (zsm_tr (zsm_tr zsm_rf hz (by decide)) (zsm_st zsm_rf eh_1 (by decide)) (fun _ q => q)) (by have h9 := zg_eq eh_1 hm; rw [nI_1] at h9; exact h9) (zg_ne eh_1 (by decide) h90)
    · have hcc : c < 4 := by have := mt (nI_leI (a := 4) (b := c) (by decide) (by omega)).mpr q_c; omega
      refine pw_aload_n d_Md_make_256 rfl rfl ?_
      refine pw_get d_Md_make_257 fl_Md_26 hm rfl ?_
      refine pw_iconst (x := 4) d_Md_make_260 (by decide) ?_
      refine pw_iload d_Md_make_261 rfl ?_
      refine pw_imul d_Md_make_263 ?_
      refine pw_iload d_Md_make_264 rfl ?_
      refine pw_iadd d_Md_make_266 ?_
      refine pw_aload_n d_Md_make_267 rfl rfl ?_
      refine pw_get d_Md_make_268 fl_Md_38 hm rfl ?_
      refine pw_iload d_Md_make_271 rfl ?_
      refine pw_iald d_Md_make_273 h94 rfl rfl hcc (by decide) ?_
      obtain ⟨h_2, eh_2⟩ : ∃ x_9, x_9 = List.set h (90) (.inl (0, 880, .inl (upd (zas mk pt a pn c) (4 * a + c) (mk c)))) := ⟨_, rfl⟩
      refine pw_iast rfl d_Md_make_274 h90 rfl (n4 a c) (by omega) (by decide) eh_2.symm ?_
      refine pw_iinc (y := nI (c + 1)) d_Md_make_275 rfl (nI_1 c) (by decide) (pl' := [some (.ref 84), some (.int (nI i)), some (.int (nI j)), some (.int (nI k)), some (.int (q)), some (.int (tu)), some (.int (d)), some (.int (nI a)), some (.int (nI (c + 1)))]) rfl ?_
      refine pw_goto 250 d_Md_make_278 (by decide) ?_
      refine ih (c + 1) _ (by omega) (by omega) (zsm_st hz eh_2 (by decide)) ?_
      rw [← zas_s]
      exact zg_eq eh_2 h90
