/-- the line of two faces -/
def rCx (u v : Nat → Int32) (c : Nat) : Int32 := if c = 0 then u 1 * v 2 - u 2 * v 1 else if c = 1 then u 2 * v 0 - u 0 * v 2 else u 0 * v 1 - u 1 * v 0
/-- turned along the pull -/
def rCt (b : Int32) (w : Nat → Int32) (c : Nat) : Int32 := if b < 0 then -w c else w c
/-- block k slides along faces f and j -/
def rAl (ml mo tk bs bf mp : Nat → Int32) (bl k f j : Nat) : Prop := rHd mo tk bs bf bl k f ∧ rHd mo tk bs bf bl k j ∧ rSl mp (rIn ml bs k f) 0 * (rIn ml bs k j) 0 + rSl mp (rIn ml bs k f) 1 * (rIn ml bs k j) 1 + rSl mp (rIn ml bs k f) 2 * (rIn ml bs k j) 2 < 0 ∧ rSl mp (rIn ml bs k j) 0 * (rIn ml bs k f) 0 + rSl mp (rIn ml bs k j) 1 * (rIn ml bs k f) 1 + rSl mp (rIn ml bs k j) 2 * (rIn ml bs k f) 2 < 0 ∧ ¬ mp 0 * rCx (rIn ml bs k f) (rIn ml bs k j) 0 + mp 1 * rCx (rIn ml bs k f) (rIn ml bs k j) 1 + mp 2 * rCx (rIn ml bs k f) (rIn ml bs k j) 2 = 0 ∧ tk k = 0 ∧ rGo ml mo tk bs bf bl k (rCt (mp 0 * rCx (rIn ml bs k f) (rIn ml bs k j) 0 + mp 1 * rCx (rIn ml bs k f) (rIn ml bs k j) 1 + mp 2 * rCx (rIn ml bs k f) (rIn ml bs k j) 2) (rCx (rIn ml bs k f) (rIn ml bs k j)) 0) (rCt (mp 0 * rCx (rIn ml bs k f) (rIn ml bs k j) 0 + mp 1 * rCx (rIn ml bs k f) (rIn ml bs k j) 1 + mp 2 * rCx (rIn ml bs k f) (rIn ml bs k j) 2) (rCx (rIn ml bs k f) (rIn ml bs k j)) 1) (rCt (mp 0 * rCx (rIn ml bs k f) (rIn ml bs k j) 0 + mp 1 * rCx (rIn ml bs k f) (rIn ml bs k j) 1 + mp 2 * rCx (rIn ml bs k f) (rIn ml bs k j) 2) (rCx (rIn ml bs k f) (rIn ml bs k j)) 2)
set_option maxRecDepth 20000 in
set_option maxHeartbeats 2000000 in
theorem l_turn {G : zG} {h0 : zH} {jn dr pn bl tn : Nat} (hm0 : zMo h0 0 jn dr pn bl tn) {k f j : Nat} {pr by_ : Int32} {W : Nat → Int32} {Q : zO → zH → Prop} (K : ∀ (h : zH) (vw : Nat → Int32) (v : Option Value), zsm [102] h0 h → h[102]? = some (.inl (0, 3, .inl vw)) → (∀ c, c < 3 → vw c = rCt by_ W c) → PW G M_Md_slidesAlong (zroom 3 0 0) false Q 258 [some (.ref 84), some (.int (nI k)), some (.int (nI f)), some (.int (nI j)), some (.int pr), some (.int by_), v] [] h 0 0) : ∀ (n c : Nat) (h : zH) (vw : Nat → Int32), 3 - c < n → c ≤ 3 → zsm [102] h0 h → h[102]? = some (.inl (0, 3, .inl vw)) → (∀ e, e < c → vw e = rCt by_ W e) → (∀ e, c ≤ e → e < 3 → vw e = W e) → PW G M_Md_slidesAlong (zroom 3 0 0) false Q 226 [some (.ref 84), some (.int (nI k)), some (.int (nI f)), some (.int (nI j)), some (.int pr), some (.int by_), some (.int (nI c))] [] h 0 0 := by
  intro n
  induction n with
  | zero => intro c h vw hn; exact absurd hn (Nat.not_lt_zero _)
  | succ n ih =>
    intro c h vw hn hc hz h102 hv1 hv2
    have hm := zsm_at hz (by decide) hm0
    refine pw_iload d_Md_slidesAlong_226 rfl ?_
    refine pw_iconst (x := 3) d_Md_slidesAlong_228 (by decide) ?_
    refine pw_icmp_ge 258 d_Md_slidesAlong_229 (by decide) (fun q_c => ?_) (fun q_c => ?_)
    · have hcc : c = 3 := by have := (nI_leI (a := 3) (b := c) (by decide) (by omega)).mp q_c; omega
      subst hcc
      exact K h vw _ hz h102 hv1
    · have hcc : c < 3 := by have := mt (nI_leI (a := 3) (b := c) (by decide) (by omega)).mpr q_c; omega
      refine pw_iload d_Md_slidesAlong_232 rfl ?_
      refine pw_if_ge 258 d_Md_slidesAlong_234 (by decide) (fun q_b => ?_) (fun q_b => ?_)
      · exact K h vw _ hz h102 (fun e9 he9 => by rcases Nat.lt_or_ge e9 c with h1 | h1; exact hv1 e9 h1; rw [hv2 e9 h1 he9]; unfold rCt; rw [if_neg (zlt.mpr q_b)])
      · refine pw_aload_n d_Md_slidesAlong_237 rfl rfl ?_
        refine pw_get d_Md_slidesAlong_238 fl_Md_62 hm rfl ?_
        refine pw_iload d_Md_slidesAlong_241 rfl ?_
        refine pw_aload_n d_Md_slidesAlong_243 rfl rfl ?_
        refine pw_get d_Md_slidesAlong_244 fl_Md_62 hm rfl ?_
        refine pw_iload d_Md_slidesAlong_247 rfl ?_
        refine pw_iald d_Md_slidesAlong_249 h102 rfl rfl hcc (by decide) ?_
        refine pw_ineg d_Md_slidesAlong_250 ?_
        obtain ⟨h_1, eh_1⟩ : ∃ x_9, x_9 = List.set h (102) (.inl (0, 3, .inl (upd vw c ((-(vw c)))))) := ⟨_, rfl⟩
        refine pw_iast rfl d_Md_slidesAlong_251 h102 rfl rfl hcc (by decide) eh_1.symm ?_
        refine pw_iinc (y := nI (c + 1)) d_Md_slidesAlong_252 rfl (nI_1 c) (by decide) (pl' := [some (.ref 84), some (.int (nI k)), some (.int (nI f)), some (.int (nI j)), some (.int (pr)), some (.int (by_)), some (.int (nI (c + 1)))]) rfl ?_
        refine pw_goto 226 d_Md_slidesAlong_255 (by decide) ?_
        refine ih (c + 1) _ _ (by omega) (by omega) (zsm_st hz eh_1 (by decide)) (zg_eq eh_1 h102) (fun e9 he9 => ?_) (fun e9 h1 h2 => ?_)
        · rcases Nat.lt_succ_iff_lt_or_eq.mp he9 with h1 | rfl
          · rw [pk_un (by omega)]; exact hv1 e9 h1
          · rw [pk_us]; unfold rCt; rw [if_pos (zle.mp q_b), hv2 e9 (Nat.le_refl _) hcc]
        · rw [pk_un (by omega)]; exact hv2 e9 (by omega) h2
set_option maxRecDepth 20000 in
set_option maxHeartbeats 2000000 in
theorem l_al_end {G : zG} {h : zH} {jn dr pn bl tn : Nat} (hm : zMo h 0 jn dr pn bl tn) {ml bs bf mo mp : Nat → Int32} (h86 : h[86]? = some (.inl (0, 48, .inl ml))) (h95 : h[95]? = some (.inl (0, 64, .inl bs))) (h96 : h[96]? = some (.inl (0, 64, .inl bf))) (h87 : h[87]? = some (.inl (1, 12, .inl mo))) (h89 : h[89]? = some (.inl (0, 3, .inl mp))) {tk : Nat → Int32} (h97 : h[97]? = some (.inl (1, 64, .inl tk))) (hbl : bl ≤ 64) {k : Nat} (hk : k < 64) (hfx : ∀ f, f < 6 → (bf k >>> (nI f &&& 31)) &&& 1 = 1 → ∃ o, o < bl ∧ bs o = (bs k ^^^ (1 <<< ((nI f) &&& 31)))) {v1 : Nat → Int32} (h100 : h[100]? = some (.inl (0, 3, .inl v1))) {v2 : Nat → Int32} (h101 : h[101]? = some (.inl (0, 3, .inl v2))) {vw : Nat → Int32} (h102 : h[102]? = some (.inl (0, 3, .inl vw))) {vo : Nat → Int32} (h103 : h[103]? = some (.inl (0, 3, .inl vo))) {f j : Nat} {pr by_ : Int32} {o6 : Option Value} (hpr : ¬ pr = 0 ↔ rSl mp (rIn ml bs k f) 0 * (rIn ml bs k j) 0 + rSl mp (rIn ml bs k f) 1 * (rIn ml bs k j) 1 + rSl mp (rIn ml bs k f) 2 * (rIn ml bs k j) 2 < 0 ∧ rSl mp (rIn ml bs k j) 0 * (rIn ml bs k f) 0 + rSl mp (rIn ml bs k j) 1 * (rIn ml bs k f) 1 + rSl mp (rIn ml bs k j) 2 * (rIn ml bs k f) 2 < 0) (hby : by_ = mp 0 * rCx (rIn ml bs k f) (rIn ml bs k j) 0 + mp 1 * rCx (rIn ml bs k f) (rIn ml bs k j) 1 + mp 2 * rCx (rIn ml bs k f) (rIn ml bs k j) 2) (hw : ∀ c, c < 3 → vw c = rCt by_ (rCx (rIn ml bs k f) (rIn ml bs k j)) c) (hf9 : rHd mo tk bs bf bl k f) (hj9 : rHd mo tk bs bf bl k j) : PW G M_Md_slidesAlong (zroom 3 0 0) false (fun r h' => ∃ t : Int32, r = .inl (some (.int t)) ∧ (∃ v, h'[100]? = some (.inl (0, 3, .inl v))) ∧ (∃ v, h'[101]? = some (.inl (0, 3, .inl v))) ∧ (∃ v, h'[102]? = some (.inl (0, 3, .inl v))) ∧ (∃ v, h'[103]? = some (.inl (0, 3, .inl v))) ∧ zsm [100, 101, 102, 103] h h' ∧ ((t = 1 ∧ rAl ml mo tk bs bf mp bl k f j) ∨ (t = 0 ∧ ¬ rAl ml mo tk bs bf mp bl k f j))) 258 [some (.ref 84), some (.int (nI k)), some (.int (nI f)), some (.int (nI j)), some (.int pr), some (.int by_), o6] [] h 0 0 := by
  refine pw_iload d_Md_slidesAlong_258 rfl ?_
  refine pw_if_eq 280 d_Md_slidesAlong_260 (by decide) (fun q_p => ?_) (fun q_p => ?_)
  · refine pw_iconst (x := 0) d_Md_slidesAlong_280 (by decide) ?_
    refine pw_zreturn d_Md_slidesAlong_281 rfl (by decide) (by decide) (by decide) ?_
    exact ⟨0, rfl, ⟨_, h100⟩, ⟨_, h101⟩, ⟨_, h102⟩, ⟨_, h103⟩, zsm_rf, Or.inr ⟨rfl, fun z => (hpr.mpr ⟨z.2.2.1, z.2.2.2.1⟩) q_p⟩⟩
  · refine pw_iload d_Md_slidesAlong_263 rfl ?_
    refine pw_if_eq 280 d_Md_slidesAlong_265 (by decide) (fun q_z => ?_) (fun q_z => ?_)
    · refine pw_iconst (x := 0) d_Md_slidesAlong_280 (by decide) ?_
      refine pw_zreturn d_Md_slidesAlong_281 rfl (by decide) (by decide) (by decide) ?_
      exact ⟨0, rfl, ⟨_, h100⟩, ⟨_, h101⟩, ⟨_, h102⟩, ⟨_, h103⟩, zsm_rf, Or.inr ⟨rfl, fun z => z.2.2.2.2.1 (hby ▸ q_z)⟩⟩
    · refine pw_aload_n d_Md_slidesAlong_268 rfl rfl ?_
      refine pw_iload_n d_Md_slidesAlong_269 rfl rfl ?_
      refine pw_callVw (R' := (zroom 2 0 0)) [.int (nI k)] (fun q => nomatch q) d_Md_slidesAlong_270 lk_Md_178 hm rfl rfl rfl (c_canGo hm h86 h95 h96 h87 h97 hbl hk hfx h102 h103) (fun th_1 h_1 kh_1 => ?_)
      refine pw_if_eq 280 d_Md_slidesAlong_273 (by decide) (fun q_g => ?_) (fun q_g => ?_)
      · refine pw_iconst (x := 0) d_Md_slidesAlong_280 (by decide) ?_
        refine pw_zreturn d_Md_slidesAlong_281 rfl (by decide) (by decide) (by decide) ?_
        have hg := kh_1.2.2
        rw [hw 0 (by decide), hw 1 (by decide), hw 2 (by decide), hby] at hg
        exact ⟨0, rfl, ⟨_, (zsm_at kh_1.2.1 (by decide) h100)⟩, ⟨_, (zsm_at kh_1.2.1 (by decide) h101)⟩, ⟨_, (zsm_at kh_1.2.1 (by decide) h102)⟩, kh_1.1, (zsm_tr zsm_rf kh_1.2.1 (by decide)), Or.inr ⟨rfl, fun z => by rcases hg with ⟨e, -⟩ | ⟨-, h1⟩; exact absurd (e.symm.trans q_g) (by decide); exact h1 ⟨z.2.2.2.2.2.1, z.2.2.2.2.2.2⟩⟩⟩
      · refine pw_iconst (x := 1) d_Md_slidesAlong_276 (by decide) ?_
        refine pw_goto 281 d_Md_slidesAlong_277 (by decide) ?_
        refine pw_zreturn d_Md_slidesAlong_281 rfl (by decide) (by decide) (by decide) ?_
        have hg := kh_1.2.2
        rw [hw 0 (by decide), hw 1 (by decide), hw 2 (by decide), hby] at hg
        have hg2 := (hg.resolve_right (fun z => q_g z.1)).2
        exact ⟨1, rfl, ⟨_, (zsm_at kh_1.2.1 (by decide) h100)⟩, ⟨_, (zsm_at kh_1.2.1 (by decide) h101)⟩, ⟨_, (zsm_at kh_1.2.1 (by decide) h102)⟩, kh_1.1, (zsm_tr zsm_rf kh_1.2.1 (by decide)), Or.inl ⟨rfl, hf9, hj9, (hpr.mp q_p).1, (hpr.mp q_p).2, hby ▸ q_z, hg2.1, hg2.2⟩⟩
set_option maxRecDepth 20000 in
set_option maxHeartbeats 2000000 in
theorem l_al_line {G : zG} {h : zH} {jn dr pn bl tn : Nat} (hm : zMo h 0 jn dr pn bl tn) {ml bs bf mo mp : Nat → Int32} (h86 : h[86]? = some (.inl (0, 48, .inl ml))) (h95 : h[95]? = some (.inl (0, 64, .inl bs))) (h96 : h[96]? = some (.inl (0, 64, .inl bf))) (h87 : h[87]? = some (.inl (1, 12, .inl mo))) (h89 : h[89]? = some (.inl (0, 3, .inl mp))) {tk : Nat → Int32} (h97 : h[97]? = some (.inl (1, 64, .inl tk))) (hbl : bl ≤ 64) {k : Nat} (hk : k < 64) (hfx : ∀ f, f < 6 → (bf k >>> (nI f &&& 31)) &&& 1 = 1 → ∃ o, o < bl ∧ bs o = (bs k ^^^ (1 <<< ((nI f) &&& 31)))) {v1 : Nat → Int32} (h100 : h[100]? = some (.inl (0, 3, .inl v1))) {v2 : Nat → Int32} (h101 : h[101]? = some (.inl (0, 3, .inl v2))) {vw : Nat → Int32} (h102 : h[102]? = some (.inl (0, 3, .inl vw))) {vo : Nat → Int32} (h103 : h[103]? = some (.inl (0, 3, .inl vo))) {f j : Nat} {pr : Int32} {o5 o6 : Option Value} (hu : ∀ c, c < 3 → v1 c = rIn ml bs k f c) (hv : ∀ c, c < 3 → v2 c = rIn ml bs k j c) (hpr : ¬ pr = 0 ↔ rSl mp (rIn ml bs k f) 0 * (rIn ml bs k j) 0 + rSl mp (rIn ml bs k f) 1 * (rIn ml bs k j) 1 + rSl mp (rIn ml bs k f) 2 * (rIn ml bs k j) 2 < 0 ∧ rSl mp (rIn ml bs k j) 0 * (rIn ml bs k f) 0 + rSl mp (rIn ml bs k j) 1 * (rIn ml bs k f) 1 + rSl mp (rIn ml bs k j) 2 * (rIn ml bs k f) 2 < 0) (hf9 : rHd mo tk bs bf bl k f) (hj9 : rHd mo tk bs bf bl k j) : PW G M_Md_slidesAlong (zroom 3 0 0) false (fun r h' => ∃ t : Int32, r = .inl (some (.int t)) ∧ (∃ v, h'[100]? = some (.inl (0, 3, .inl v))) ∧ (∃ v, h'[101]? = some (.inl (0, 3, .inl v))) ∧ (∃ v, h'[102]? = some (.inl (0, 3, .inl v))) ∧ (∃ v, h'[103]? = some (.inl (0, 3, .inl v))) ∧ zsm [100, 101, 102, 103] h h' ∧ ((t = 1 ∧ rAl ml mo tk bs bf mp bl k f j) ∨ (t = 0 ∧ ¬ rAl ml mo tk bs bf mp bl k f j))) 111 [some (.ref 84), some (.int (nI k)), some (.int (nI f)), some (.int (nI j)), some (.int pr), o5, o6] [] h 0 0 := by
  refine pw_aload_n d_Md_slidesAlong_111 rfl rfl ?_
  refine pw_get d_Md_slidesAlong_112 fl_Md_62 hm rfl ?_
  refine pw_iconst (x := 0) d_Md_slidesAlong_115 (by decide) ?_
  refine pw_aload_n d_Md_slidesAlong_116 rfl rfl ?_
  refine pw_get d_Md_slidesAlong_117 fl_Md_56 hm rfl ?_
  refine pw_iconst (x := 1) d_Md_slidesAlong_120 (by decide) ?_
  refine pw_iald d_Md_slidesAlong_121 h100 rfl rfl (by decide) (by decide) ?_
  refine pw_aload_n d_Md_slidesAlong_122 rfl rfl ?_
  refine pw_get d_Md_slidesAlong_123 fl_Md_59 hm rfl ?_
  refine pw_iconst (x := 2) d_Md_slidesAlong_126 (by decide) ?_
  refine pw_iald d_Md_slidesAlong_127 h101 rfl rfl (by decide) (by decide) ?_
  refine pw_imul d_Md_slidesAlong_128 ?_
  refine pw_aload_n d_Md_slidesAlong_129 rfl rfl ?_
  refine pw_get d_Md_slidesAlong_130 fl_Md_56 hm rfl ?_
  refine pw_iconst (x := 2) d_Md_slidesAlong_133 (by decide) ?_
  refine pw_iald d_Md_slidesAlong_134 h100 rfl rfl (by decide) (by decide) ?_
  refine pw_aload_n d_Md_slidesAlong_135 rfl rfl ?_
  refine pw_get d_Md_slidesAlong_136 fl_Md_59 hm rfl ?_
  refine pw_iconst (x := 1) d_Md_slidesAlong_139 (by decide) ?_
  refine pw_iald d_Md_slidesAlong_140 h101 rfl rfl (by decide) (by decide) ?_
  refine pw_imul d_Md_slidesAlong_141 ?_
  refine pw_isub d_Md_slidesAlong_142 ?_
  obtain ⟨h_1, eh_1⟩ : ∃ x_9, x_9 = List.set h (102) (.inl (0, 3, .inl (upd vw 0 (((v1 1 * v2 2) - (v1 2 * v2 1)))))) := ⟨_, rfl⟩
  refine pw_iast rfl d_Md_slidesAlong_143 h102 rfl rfl (by decide) (by decide) eh_1.symm ?_
  refine pw_aload_n d_Md_slidesAlong_144 rfl rfl ?_
  refine pw_get d_Md_slidesAlong_145 fl_Md_62 (zg_ne eh_1 (by decide) hm) rfl ?_
  refine pw_iconst (x := 1) d_Md_slidesAlong_148 (by decide) ?_
  refine pw_aload_n d_Md_slidesAlong_149 rfl rfl ?_
  refine pw_get d_Md_slidesAlong_150 fl_Md_56 (zg_ne eh_1 (by decide) hm) rfl ?_
  refine pw_iconst (x := 2) d_Md_slidesAlong_153 (by decide) ?_
  refine pw_iald d_Md_slidesAlong_154 (zg_ne eh_1 (by decide) h100) rfl rfl (by decide) (by decide) ?_
  refine pw_aload_n d_Md_slidesAlong_155 rfl rfl ?_
  refine pw_get d_Md_slidesAlong_156 fl_Md_59 (zg_ne eh_1 (by decide) hm) rfl ?_
  refine pw_iconst (x := 0) d_Md_slidesAlong_159 (by decide) ?_
  refine pw_iald d_Md_slidesAlong_160 (zg_ne eh_1 (by decide) h101) rfl rfl (by decide) (by decide) ?_
  refine pw_imul d_Md_slidesAlong_161 ?_
  refine pw_aload_n d_Md_slidesAlong_162 rfl rfl ?_
  refine pw_get d_Md_slidesAlong_163 fl_Md_56 (zg_ne eh_1 (by decide) hm) rfl ?_
  refine pw_iconst (x := 0) d_Md_slidesAlong_166 (by decide) ?_
  refine pw_iald d_Md_slidesAlong_167 (zg_ne eh_1 (by decide) h100) rfl rfl (by decide) (by decide) ?_
  refine pw_aload_n d_Md_slidesAlong_168 rfl rfl ?_
  refine pw_get d_Md_slidesAlong_169 fl_Md_59 (zg_ne eh_1 (by decide) hm) rfl ?_
  refine pw_iconst (x := 2) d_Md_slidesAlong_172 (by decide) ?_
  refine pw_iald d_Md_slidesAlong_173 (zg_ne eh_1 (by decide) h101) rfl rfl (by decide) (by decide) ?_
  refine pw_imul d_Md_slidesAlong_174 ?_
  refine pw_isub d_Md_slidesAlong_175 ?_
  obtain ⟨h_2, eh_2⟩ : ∃ x_9, x_9 = List.set h_1 (102) (.inl (0, 3, .inl (upd (upd vw 0 (((v1 1 * v2 2) - (v1 2 * v2 1)))) 1 (((v1 2 * v2 0) - (v1 0 * v2 2)))))) := ⟨_, rfl⟩
  refine pw_iast rfl d_Md_slidesAlong_176 (zg_eq eh_1 h102) rfl rfl (by decide) (by decide) eh_2.symm ?_
  refine pw_aload_n d_Md_slidesAlong_177 rfl rfl ?_
  refine pw_get d_Md_slidesAlong_178 fl_Md_62 (zg_ne eh_2 (by decide) (zg_ne eh_1 (by decide) hm)) rfl ?_
  refine pw_iconst (x := 2) d_Md_slidesAlong_181 (by decide) ?_
  refine pw_aload_n d_Md_slidesAlong_182 rfl rfl ?_
  refine pw_get d_Md_slidesAlong_183 fl_Md_56 (zg_ne eh_2 (by decide) (zg_ne eh_1 (by decide) hm)) rfl ?_
  refine pw_iconst (x := 0) d_Md_slidesAlong_186 (by decide) ?_
  refine pw_iald d_Md_slidesAlong_187 (zg_ne eh_2 (by decide) (zg_ne eh_1 (by decide) h100)) rfl rfl (by decide) (by decide) ?_
  refine pw_aload_n d_Md_slidesAlong_188 rfl rfl ?_
  refine pw_get d_Md_slidesAlong_189 fl_Md_59 (zg_ne eh_2 (by decide) (zg_ne eh_1 (by decide) hm)) rfl ?_
  refine pw_iconst (x := 1) d_Md_slidesAlong_192 (by decide) ?_
  refine pw_iald d_Md_slidesAlong_193 (zg_ne eh_2 (by decide) (zg_ne eh_1 (by decide) h101)) rfl rfl (by decide) (by decide) ?_
  refine pw_imul d_Md_slidesAlong_194 ?_
  refine pw_aload_n d_Md_slidesAlong_195 rfl rfl ?_
  refine pw_get d_Md_slidesAlong_196 fl_Md_56 (zg_ne eh_2 (by decide) (zg_ne eh_1 (by decide) hm)) rfl ?_
  refine pw_iconst (x := 1) d_Md_slidesAlong_199 (by decide) ?_
  refine pw_iald d_Md_slidesAlong_200 (zg_ne eh_2 (by decide) (zg_ne eh_1 (by decide) h100)) rfl rfl (by decide) (by decide) ?_
  refine pw_aload_n d_Md_slidesAlong_201 rfl rfl ?_
  refine pw_get d_Md_slidesAlong_202 fl_Md_59 (zg_ne eh_2 (by decide) (zg_ne eh_1 (by decide) hm)) rfl ?_
  refine pw_iconst (x := 0) d_Md_slidesAlong_205 (by decide) ?_
  refine pw_iald d_Md_slidesAlong_206 (zg_ne eh_2 (by decide) (zg_ne eh_1 (by decide) h101)) rfl rfl (by decide) (by decide) ?_
  refine pw_imul d_Md_slidesAlong_207 ?_
  refine pw_isub d_Md_slidesAlong_208 ?_
  obtain ⟨h_3, eh_3⟩ : ∃ x_9, x_9 = List.set h_2 (102) (.inl (0, 3, .inl (upd (upd (upd vw 0 (((v1 1 * v2 2) - (v1 2 * v2 1)))) 1 (((v1 2 * v2 0) - (v1 0 * v2 2)))) 2 (((v1 0 * v2 1) - (v1 1 * v2 0)))))) := ⟨_, rfl⟩
  refine pw_iast rfl d_Md_slidesAlong_209 (zg_eq eh_2 (zg_eq eh_1 h102)) rfl rfl (by decide) (by decide) eh_3.symm ?_
  refine pw_aload_n d_Md_slidesAlong_210 rfl rfl ?_
  refine pw_get d_Md_slidesAlong_211 fl_Md_23 (zg_ne eh_3 (by decide) (zg_ne eh_2 (by decide) (zg_ne eh_1 (by decide) hm))) rfl ?_
  refine pw_aload_n d_Md_slidesAlong_214 rfl rfl ?_
  refine pw_get d_Md_slidesAlong_215 fl_Md_62 (zg_ne eh_3 (by decide) (zg_ne eh_2 (by decide) (zg_ne eh_1 (by decide) hm))) rfl ?_
  refine pw_callS1 (R' := (zroom 0 0 0)) (h2 := h_3) [.ref 89, .ref 102] (fun q => nomatch q) d_Md_slidesAlong_218 lk_Md_174 rfl rfl (c_mtimes (zg_ne eh_3 (by decide) (zg_ne eh_2 (by decide) (zg_ne eh_1 (by decide) h89))) (zg_eq eh_3 (zg_eq eh_2 (zg_eq eh_1 h102)))) ?_
  refine pw_istore d_Md_slidesAlong_221 (by decide) (pl' := [some (.ref 84), some (.int (nI k)), some (.int (nI f)), some (.int (nI j)), some (.int (pr)), some (.int ((mp 0 * (upd (upd (upd vw 0 (((v1 1 * v2 2) - (v1 2 * v2 1)))) 1 (((v1 2 * v2 0) - (v1 0 * v2 2)))) 2 (((v1 0 * v2 1) - (v1 1 * v2 0)))) 0 + mp 1 * (upd (upd (upd vw 0 (((v1 1 * v2 2) - (v1 2 * v2 1)))) 1 (((v1 2 * v2 0) - (v1 0 * v2 2)))) 2 (((v1 0 * v2 1) - (v1 1 * v2 0)))) 1 + mp 2 * (upd (upd (upd vw 0 (((v1 1 * v2 2) - (v1 2 * v2 1)))) 1 (((v1 2 * v2 0) - (v1 0 * v2 2)))) 2 (((v1 0 * v2 1) - (v1 1 * v2 0)))) 2))), o6]) rfl ?_
  refine pw_iconst (x := 0) d_Md_slidesAlong_223 (by decide) ?_
  refine pw_istore d_Md_slidesAlong_224 (by decide) (pl' := [some (.ref 84), some (.int (nI k)), some (.int (nI f)), some (.int (nI j)), some (.int (pr)), some (.int ((mp 0 * (upd (upd (upd vw 0 (((v1 1 * v2 2) - (v1 2 * v2 1)))) 1 (((v1 2 * v2 0) - (v1 0 * v2 2)))) 2 (((v1 0 * v2 1) - (v1 1 * v2 0)))) 0 + mp 1 * (upd (upd (upd vw 0 (((v1 1 * v2 2) - (v1 2 * v2 1)))) 1 (((v1 2 * v2 0) - (v1 0 * v2 2)))) 2 (((v1 0 * v2 1) - (v1 1 * v2 0)))) 1 + mp 2 * (upd (upd (upd vw 0 (((v1 1 * v2 2) - (v1 2 * v2 1)))) 1 (((v1 2 * v2 0) - (v1 0 * v2 2)))) 2 (((v1 0 * v2 1) - (v1 1 * v2 0)))) 2))), some (.int (0))]) rfl ?_
  have z1 : zsm [102] h h_3 := (zsm_st (zsm_st (zsm_st zsm_rf eh_1 (by decide)) eh_2 (by decide)) eh_3 (by decide))
  have w0 : (upd (upd (upd vw 0 (((v1 1 * v2 2) - (v1 2 * v2 1)))) 1 (((v1 2 * v2 0) - (v1 0 * v2 2)))) 2 (((v1 0 * v2 1) - (v1 1 * v2 0)))) 0 = v1 1 * v2 2 - v1 2 * v2 1 := by rw [pk_un (by decide), pk_un (by decide), pk_us]
  have w1 : (upd (upd (upd vw 0 (((v1 1 * v2 2) - (v1 2 * v2 1)))) 1 (((v1 2 * v2 0) - (v1 0 * v2 2)))) 2 (((v1 0 * v2 1) - (v1 1 * v2 0)))) 1 = v1 2 * v2 0 - v1 0 * v2 2 := by rw [pk_un (by decide), pk_us]
  have w2 : (upd (upd (upd vw 0 (((v1 1 * v2 2) - (v1 2 * v2 1)))) 1 (((v1 2 * v2 0) - (v1 0 * v2 2)))) 2 (((v1 0 * v2 1) - (v1 1 * v2 0)))) 2 = v1 0 * v2 1 - v1 1 * v2 0 := pk_us
  have hby : (mp 0 * (upd (upd (upd vw 0 (((v1 1 * v2 2) - (v1 2 * v2 1)))) 1 (((v1 2 * v2 0) - (v1 0 * v2 2)))) 2 (((v1 0 * v2 1) - (v1 1 * v2 0)))) 0 + mp 1 * (upd (upd (upd vw 0 (((v1 1 * v2 2) - (v1 2 * v2 1)))) 1 (((v1 2 * v2 0) - (v1 0 * v2 2)))) 2 (((v1 0 * v2 1) - (v1 1 * v2 0)))) 1 + mp 2 * (upd (upd (upd vw 0 (((v1 1 * v2 2) - (v1 2 * v2 1)))) 1 (((v1 2 * v2 0) - (v1 0 * v2 2)))) 2 (((v1 0 * v2 1) - (v1 1 * v2 0)))) 2) = mp 0 * rCx (rIn ml bs k f) (rIn ml bs k j) 0 + mp 1 * rCx (rIn ml bs k f) (rIn ml bs k j) 1 + mp 2 * rCx (rIn ml bs k f) (rIn ml bs k j) 2 := by
    rw [w0, w1, w2, hu 0 (by decide), hu 1 (by decide), hu 2 (by decide), hv 0 (by decide), hv 1 (by decide), hv 2 (by decide)]
    rfl
  refine l_turn (zsm_at z1 (by decide) hm) (W := rCx (rIn ml bs k f) (rIn ml bs k j)) (fun h9 vw9 o9 z9 k1 k2 => ?_) 4 0 _ _ (by decide) (by decide) zsm_rf (zg_eq eh_3 (zg_eq eh_2 (zg_eq eh_1 h102))) (fun e9 he9 => absurd he9 (Nat.not_lt_zero _)) (fun e9 _ h2 => ?_)
  · refine pw_mono ?_ (l_al_end (zsm_at z9 (by decide) (zsm_at z1 (by decide) hm)) (zsm_at z9 (by decide) (zsm_at z1 (by decide) h86)) (zsm_at z9 (by decide) (zsm_at z1 (by decide) h95)) (zsm_at z9 (by decide) (zsm_at z1 (by decide) h96)) (zsm_at z9 (by decide) (zsm_at z1 (by decide) h87)) (zsm_at z9 (by decide) (zsm_at z1 (by decide) h89)) (zsm_at z9 (by decide) (zsm_at z1 (by decide) h97)) hbl hk hfx (zsm_at z9 (by decide) (zsm_at z1 (by decide) h100)) (zsm_at z9 (by decide) (zsm_at z1 (by decide) h101)) k1 (zsm_at z9 (by decide) (zsm_at z1 (by decide) h103)) hpr hby k2 hf9 hj9)
    rintro r h' ⟨t, a1, a2, a3, a4, a5, a6, a7⟩
    exact ⟨t, a1, a2, a3, a4, a5, zsm_tr (zsm_tr (zsm_tr zsm_rf z1 (by decide)) z9 (by decide)) a6 (fun _ q => q), a7⟩
  · have hc3 : e9 = 0 ∨ e9 = 1 ∨ e9 = 2 := by omega
    rcases hc3 with rfl | rfl | rfl
    · rw [pk_un (by decide), pk_un (by decide), pk_us, hu 1 (by decide), hu 2 (by decide), hv 1 (by decide), hv 2 (by decide)]; rfl
    · rw [pk_un (by decide), pk_us, hu 0 (by decide), hu 2 (by decide), hv 0 (by decide), hv 2 (by decide)]; rfl
    · rw [pk_us, hu 0 (by decide), hu 1 (by decide), hv 0 (by decide), hv 1 (by decide)]; rfl
