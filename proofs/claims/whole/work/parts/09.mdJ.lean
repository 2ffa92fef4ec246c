/-- how far point p is from plane f -/
def zmo (ml pt : Nat → Int32) (p f : Nat) : Int32 := ml (4 * f) * pt (4 * p) + ml (4 * f + 1) * pt (4 * p + 1) + ml (4 * f + 2) * pt (4 * p + 2) - ml (4 * f + 3) * pt (4 * p + 3)
/-- the marks of point r, at planes below n -/
def zBt (jn : Nat) (ml pt po pa pw : Nat → Int32) (r n : Nat) : Prop := ∀ g, g < 32 → (bt (po r) g = true ↔ g < n ∧ (6 ≤ g ∨ g < jn) ∧ zmo ml pt r g = 0) ∧ (bt (pa r) g = true ↔ g < n ∧ g < jn ∧ 0 < zmo ml pt r g) ∧ (bt (pw r) g = true ↔ g < n ∧ g < jn ∧ zmo ml pt r g < 0)
theorem zBt_s {jn : Nat} {ml pt po pa pw : Nat → Int32} {r f : Nat} {v : Int32} (hf : f < 12) (hjn : jn ≤ 6) (h : zBt jn ml pt po pa pw r f) (hv : v = if 6 ≤ f ∨ f < jn then zmo ml pt r f else 1) {po' pa' pw' : Nat → Int32} (e1 : po' r = if v = 0 then po r ||| (1 <<< ((nI f) &&& 31)) else po r) (e2 : pa' r = if 0 < v ∧ f < jn then pa r ||| (1 <<< ((nI f) &&& 31)) else pa r) (e3 : pw' r = if v < 0 ∧ f < jn then pw r ||| (1 <<< ((nI f) &&& 31)) else pw r) : zBt jn ml pt po' pa' pw' r (f + 1) := by
  intro g hg
  obtain ⟨h1, h2, h3⟩ := h g hg
  have key : ∀ (m : Int32) (P : Prop) [Decidable P] (R : Nat → Prop), (P ↔ R f) → (bt m g = true ↔ g < f ∧ R g) → (bt (if P then m ||| (1 <<< ((nI f) &&& 31)) else m) g = true ↔ g < f + 1 ∧ R g) := by
    intro m P _ R hPR hm
    split
    · next hP =>
      rw [b_or, Bool.or_eq_true, zbt_sh hg (by omega), hm]
      constructor
      · rintro (⟨a, b⟩ | a)
        · exact ⟨by omega, b⟩
        · have e : g = f := by simpa using a
          subst e
          exact ⟨by omega, hPR.mp hP⟩
      · rintro ⟨a, b⟩
        rcases Nat.lt_succ_iff_lt_or_eq.mp a with c | c
        · exact Or.inl ⟨c, b⟩
        · exact Or.inr (by simp [c])
    · next hP =>
      rw [hm]
      constructor
      · rintro ⟨a, b⟩
        exact ⟨by omega, b⟩
      · rintro ⟨a, b⟩
        rcases Nat.lt_succ_iff_lt_or_eq.mp a with c | c
        · exact ⟨c, b⟩
        · subst c; exact absurd (hPR.mpr b) hP
  by_cases ht : 6 ≤ f ∨ f < jn
  · rw [if_pos ht] at hv
    subst hv
    rw [e1, e2, e3]
    exact ⟨key _ _ (fun g => (6 ≤ g ∨ g < jn) ∧ zmo ml pt r g = 0) ⟨fun q => ⟨ht, q⟩, fun q => q.2⟩ h1, key _ _ (fun g => g < jn ∧ 0 < zmo ml pt r g) ⟨fun q => ⟨q.2, q.1⟩, fun q => ⟨q.2, q.1⟩⟩ h2, key _ _ (fun g => g < jn ∧ zmo ml pt r g < 0) ⟨fun q => ⟨q.2, q.1⟩, fun q => ⟨q.2, q.1⟩⟩ h3⟩
  · rw [if_neg ht] at hv
    subst hv
    rw [e1, e2, e3]
    exact ⟨key _ _ (fun g => (6 ≤ g ∨ g < jn) ∧ zmo ml pt r g = 0) ⟨fun q => absurd q (by decide), fun q => absurd q.1 ht⟩ h1, key _ _ (fun g => g < jn ∧ 0 < zmo ml pt r g) ⟨fun q => absurd q.2 (by omega), fun q => absurd q.1 (by omega)⟩ h2, key _ _ (fun g => g < jn ∧ zmo ml pt r g < 0) ⟨fun q => absurd q.2 (by omega), fun q => absurd q.1 (by omega)⟩ h3⟩
theorem zBt_0 {jn : Nat} {ml pt po pa pw : Nat → Int32} {r : Nat} (e1 : po r = 0) (e2 : pa r = 0) (e3 : pw r = 0) : zBt jn ml pt po pa pw r 0 := by
  intro g hg
  rw [e1, e2, e3, b_0]
  simp
theorem zBt_k {jn : Nat} {ml pt po pa pw po' pa' pw' : Nat → Int32} {r n : Nat} (e1 : po' r = po r) (e2 : pa' r = pa r) (e3 : pw' r = pw r) (h : zBt jn ml pt po pa pw r n) : zBt jn ml pt po' pa' pw' r n := by
  intro g hg
  rw [e1, e2, e3]
  exact h g hg
set_option maxRecDepth 20000 in
set_option maxHeartbeats 2000000 in
theorem l_sg1 {G : zG} {h : zH} {th : Int32} {jn dr pn bl tn : Nat} (hm : zMo h th jn dr pn bl tn) {po : Nat → Int32} (h91 : h[91]? = some (.inl (0, 220, .inl po))) {p f : Nat} (hp : p < 220) (hf : f < 12) (hjn : jn ≤ 6) {v : Int32} {Q : zO → zH → Prop} (K : ∀ h', h' = h.set 91 (.inl (0, 220, .inl (upd po p (if v = 0 then po p ||| (1 <<< ((nI f) &&& 31)) else po p)))) → PW G M_Md_cut (zroom 3 0 0) false Q 169 [some (.ref 84), some (.int (nI p)), some (.int (nI f)), some (.int v)] [] h' 0 0) : PW G M_Md_cut (zroom 3 0 0) false Q 140 [some (.ref 84), some (.int (nI p)), some (.int (nI f)), some (.int v)] [] h 0 0 := by
  refine pw_aload_n d_Md_cut_140 rfl rfl ?_
  refine pw_get d_Md_cut_141 fl_Md_29 hm rfl ?_
  refine pw_iload_n d_Md_cut_144 rfl rfl ?_
  refine pw_iload_n d_Md_cut_145 rfl rfl ?_
  refine pw_if_ne 162 d_Md_cut_146 (by decide) (fun q_v => ?_) (fun q_v => ?_)
  · refine pw_aload_n d_Md_cut_162 rfl rfl ?_
    refine pw_get d_Md_cut_163 fl_Md_29 hm rfl ?_
    refine pw_iload_n d_Md_cut_166 rfl rfl ?_
    refine pw_iald d_Md_cut_167 h91 rfl rfl hp (by decide) ?_
    obtain ⟨h_1, eh_1⟩ : ∃ x_9, x_9 = List.set h (91) (.inl (0, 220, .inl (upd po p (po p)))) := ⟨_, rfl⟩
    refine pw_iast rfl d_Md_cut_168 h91 rfl rfl hp (by decide) eh_1.symm ?_
    exact K _ (by rw [eh_1, if_neg q_v])
  · refine pw_aload_n d_Md_cut_149 rfl rfl ?_
    refine pw_get d_Md_cut_150 fl_Md_29 hm rfl ?_
    refine pw_iload_n d_Md_cut_153 rfl rfl ?_
    refine pw_iald d_Md_cut_154 h91 rfl rfl hp (by decide) ?_
    refine pw_iconst (x := 1) d_Md_cut_155 (by decide) ?_
    refine pw_iload_n d_Md_cut_156 rfl rfl ?_
    refine pw_ishl d_Md_cut_157 ?_
    refine pw_ior d_Md_cut_158 ?_
    refine pw_goto 168 d_Md_cut_159 (by decide) ?_
    obtain ⟨h_2, eh_2⟩ : ∃ x_9, x_9 = List.set h (91) (.inl (0, 220, .inl (upd po p ((po p ||| (1 <<< ((nI f) &&& 31))))))) := ⟨_, rfl⟩
    refine pw_iast rfl d_Md_cut_168 h91 rfl rfl hp (by decide) eh_2.symm ?_
    exact K _ (by rw [eh_2, if_pos q_v])
set_option maxRecDepth 20000 in
set_option maxHeartbeats 2000000 in
theorem l_sg2 {G : zG} {h : zH} {th : Int32} {jn dr pn bl tn : Nat} (hm : zMo h th jn dr pn bl tn) {pa : Nat → Int32} (h92 : h[92]? = some (.inl (0, 220, .inl pa))) {p f : Nat} (hp : p < 220) (hf : f < 12) (hjn : jn ≤ 6) {v : Int32} {Q : zO → zH → Prop} (K : ∀ h', h' = h.set 92 (.inl (0, 220, .inl (upd pa p (if 0 < v ∧ f < jn then pa p ||| (1 <<< ((nI f) &&& 31)) else pa p)))) → PW G M_Md_cut (zroom 3 0 0) false Q 206 [some (.ref 84), some (.int (nI p)), some (.int (nI f)), some (.int v)] [] h' 0 0) : PW G M_Md_cut (zroom 3 0 0) false Q 169 [some (.ref 84), some (.int (nI p)), some (.int (nI f)), some (.int v)] [] h 0 0 := by
  refine pw_aload_n d_Md_cut_169 rfl rfl ?_
  refine pw_get d_Md_cut_170 fl_Md_32 hm rfl ?_
  refine pw_iload_n d_Md_cut_173 rfl rfl ?_
  refine pw_iload_n d_Md_cut_174 rfl rfl ?_
  refine pw_if_le 199 d_Md_cut_175 (by decide) (fun q_v => ?_) (fun q_v => ?_)
  · refine pw_aload_n d_Md_cut_199 rfl rfl ?_
    refine pw_get d_Md_cut_200 fl_Md_32 hm rfl ?_
    refine pw_iload_n d_Md_cut_203 rfl rfl ?_
    refine pw_iald d_Md_cut_204 h92 rfl rfl hp (by decide) ?_
    obtain ⟨h_1, eh_1⟩ : ∃ x_9, x_9 = List.set h (92) (.inl (0, 220, .inl (upd pa p (pa p)))) := ⟨_, rfl⟩
    refine pw_iast rfl d_Md_cut_205 h92 rfl rfl hp (by decide) eh_1.symm ?_
    exact K _ (by rw [eh_1, if_neg (fun z => absurd z.1 (zlt.mpr q_v))])
  · refine pw_iload_n d_Md_cut_178 rfl rfl ?_
    refine pw_aload_n d_Md_cut_179 rfl rfl ?_
    refine pw_get d_Md_cut_180 fl_Md_83 hm rfl ?_
    refine pw_icmp_ge 199 d_Md_cut_183 (by decide) (fun q_j => ?_) (fun q_j => ?_)
    · refine pw_aload_n d_Md_cut_199 rfl rfl ?_
      refine pw_get d_Md_cut_200 fl_Md_32 hm rfl ?_
      refine pw_iload_n d_Md_cut_203 rfl rfl ?_
      refine pw_iald d_Md_cut_204 h92 rfl rfl hp (by decide) ?_
      obtain ⟨h_2, eh_2⟩ : ∃ x_9, x_9 = List.set h (92) (.inl (0, 220, .inl (upd pa p (pa p)))) := ⟨_, rfl⟩
      refine pw_iast rfl d_Md_cut_205 h92 rfl rfl hp (by decide) eh_2.symm ?_
      exact K _ (by rw [eh_2, if_neg (fun z => absurd z.2 (by have := (nI_leI (a := jn) (b := f) (by omega) (by omega)).mp q_j; omega))])
    · refine pw_aload_n d_Md_cut_186 rfl rfl ?_
      refine pw_get d_Md_cut_187 fl_Md_32 hm rfl ?_
      refine pw_iload_n d_Md_cut_190 rfl rfl ?_
      refine pw_iald d_Md_cut_191 h92 rfl rfl hp (by decide) ?_
      refine pw_iconst (x := 1) d_Md_cut_192 (by decide) ?_
      refine pw_iload_n d_Md_cut_193 rfl rfl ?_
      refine pw_ishl d_Md_cut_194 ?_
      refine pw_ior d_Md_cut_195 ?_
      refine pw_goto 205 d_Md_cut_196 (by decide) ?_
      obtain ⟨h_3, eh_3⟩ : ∃ x_9, x_9 = List.set h (92) (.inl (0, 220, .inl (upd pa p ((pa p ||| (1 <<< ((nI f) &&& 31))))))) := ⟨_, rfl⟩
      refine pw_iast rfl d_Md_cut_205 h92 rfl rfl hp (by decide) eh_3.symm ?_
      exact K _ (by rw [eh_3, if_pos ⟨zle.mp q_v, by have := mt (nI_leI (a := jn) (b := f) (by omega) (by omega)).mpr q_j; omega⟩])
set_option maxRecDepth 20000 in
set_option maxHeartbeats 2000000 in
theorem l_sg3 {G : zG} {h : zH} {th : Int32} {jn dr pn bl tn : Nat} (hm : zMo h th jn dr pn bl tn) {pw : Nat → Int32} (h93 : h[93]? = some (.inl (0, 220, .inl pw))) {p f : Nat} (hp : p < 220) (hf : f < 12) (hjn : jn ≤ 6) {v : Int32} {Q : zO → zH → Prop} (K : ∀ h', h' = h.set 93 (.inl (0, 220, .inl (upd pw p (if v < 0 ∧ f < jn then pw p ||| (1 <<< ((nI f) &&& 31)) else pw p)))) → PW G M_Md_cut (zroom 3 0 0) false Q 243 [some (.ref 84), some (.int (nI p)), some (.int (nI f)), some (.int v)] [] h' 0 0) : PW G M_Md_cut (zroom 3 0 0) false Q 206 [some (.ref 84), some (.int (nI p)), some (.int (nI f)), some (.int v)] [] h 0 0 := by
  refine pw_aload_n d_Md_cut_206 rfl rfl ?_
  refine pw_get d_Md_cut_207 fl_Md_35 hm rfl ?_
  refine pw_iload_n d_Md_cut_210 rfl rfl ?_
  refine pw_iload_n d_Md_cut_211 rfl rfl ?_
  refine pw_if_ge 236 d_Md_cut_212 (by decide) (fun q_v => ?_) (fun q_v => ?_)
  · refine pw_aload_n d_Md_cut_236 rfl rfl ?_
    refine pw_get d_Md_cut_237 fl_Md_35 hm rfl ?_
    refine pw_iload_n d_Md_cut_240 rfl rfl ?_
    refine pw_iald d_Md_cut_241 h93 rfl rfl hp (by decide) ?_
    obtain ⟨h_1, eh_1⟩ : ∃ x_9, x_9 = List.set h (93) (.inl (0, 220, .inl (upd pw p (pw p)))) := ⟨_, rfl⟩
    refine pw_iast rfl d_Md_cut_242 h93 rfl rfl hp (by decide) eh_1.symm ?_
    exact K _ (by rw [eh_1, if_neg (fun z => absurd z.1 (zlt.mpr q_v))])
  · refine pw_iload_n d_Md_cut_215 rfl rfl ?_
    refine pw_aload_n d_Md_cut_216 rfl rfl ?_
    refine pw_get d_Md_cut_217 fl_Md_83 hm rfl ?_
    refine pw_icmp_ge 236 d_Md_cut_220 (by decide) (fun q_j => ?_) (fun q_j => ?_)
    · refine pw_aload_n d_Md_cut_236 rfl rfl ?_
      refine pw_get d_Md_cut_237 fl_Md_35 hm rfl ?_
      refine pw_iload_n d_Md_cut_240 rfl rfl ?_
      refine pw_iald d_Md_cut_241 h93 rfl rfl hp (by decide) ?_
      obtain ⟨h_2, eh_2⟩ : ∃ x_9, x_9 = List.set h (93) (.inl (0, 220, .inl (upd pw p (pw p)))) := ⟨_, rfl⟩
      refine pw_iast rfl d_Md_cut_242 h93 rfl rfl hp (by decide) eh_2.symm ?_
      exact K _ (by rw [eh_2, if_neg (fun z => absurd z.2 (by have := (nI_leI (a := jn) (b := f) (by omega) (by omega)).mp q_j; omega))])
    · refine pw_aload_n d_Md_cut_223 rfl rfl ?_
      refine pw_get d_Md_cut_224 fl_Md_35 hm rfl ?_
      refine pw_iload_n d_Md_cut_227 rfl rfl ?_
      refine pw_iald d_Md_cut_228 h93 rfl rfl hp (by decide) ?_
      refine pw_iconst (x := 1) d_Md_cut_229 (by decide) ?_
      refine pw_iload_n d_Md_cut_230 rfl rfl ?_
      refine pw_ishl d_Md_cut_231 ?_
      refine pw_ior d_Md_cut_232 ?_
      refine pw_goto 242 d_Md_cut_233 (by decide) ?_
      obtain ⟨h_3, eh_3⟩ : ∃ x_9, x_9 = List.set h (93) (.inl (0, 220, .inl (upd pw p ((pw p ||| (1 <<< ((nI f) &&& 31))))))) := ⟨_, rfl⟩
      refine pw_iast rfl d_Md_cut_242 h93 rfl rfl hp (by decide) eh_3.symm ?_
      exact K _ (by rw [eh_3, if_pos ⟨zle.mp q_v, by have := mt (nI_leI (a := jn) (b := f) (by omega) (by omega)).mpr q_j; omega⟩])
set_option maxRecDepth 20000 in
set_option maxHeartbeats 2000000 in
theorem l_cutF {G : zG} {h0 : zH} {th : Int32} {jn dr pn bl tn : Nat} (hm0 : zMo h0 th jn dr pn bl tn) {ml pt : Nat → Int32} (h860 : h0[86]? = some (.inl (0, 48, .inl ml))) (h900 : h0[90]? = some (.inl (0, 880, .inl pt))) (hjn : jn ≤ 6) (hpn : pn ≤ 220) {p : Nat} (hp : p < pn) {Q : zO → zH → Prop} (K : ∀ (h : zH) (po pa pw : Nat → Int32) (o3 : Option Value), zsm [91, 92, 93] h0 h → h[91]? = some (.inl (0, 220, .inl po)) → h[92]? = some (.inl (0, 220, .inl pa)) → h[93]? = some (.inl (0, 220, .inl pw)) → (∀ r, r < p + 1 → zBt jn ml pt po pa pw r 12) → PW G M_Md_cut (zroom 3 0 0) false Q 249 [some (.ref 84), some (.int (nI p)), some (.int (nI 12)), o3] [] h 0 0) : ∀ (n f : Nat) (h : zH) (po pa pw : Nat → Int32) (o3 : Option Value), 12 - f < n → f ≤ 12 → zsm [91, 92, 93] h0 h → h[91]? = some (.inl (0, 220, .inl po)) → h[92]? = some (.inl (0, 220, .inl pa)) → h[93]? = some (.inl (0, 220, .inl pw)) → (∀ r, r < p → zBt jn ml pt po pa pw r 12) → zBt jn ml pt po pa pw p f → PW G M_Md_cut (zroom 3 0 0) false Q 115 [some (.ref 84), some (.int (nI p)), some (.int (nI f)), o3] [] h 0 0 := by
  intro n
  induction n with
  | zero => intro f h po pa pw o3 hn; exact absurd hn (Nat.not_lt_zero _)
  | succ n ih =>
    intro f h po pa pw o3 hn hf hz h91 h92 h93 hB hb
    have hm := zsm_at hz (by decide) hm0
    have h86 := zsm_at hz (by decide) h860
    have h90 := zsm_at hz (by decide) h900
    refine pw_iload_n d_Md_cut_115 rfl rfl ?_
    refine pw_bipush (x := 12) d_Md_cut_116 (by decide) ?_
    refine pw_icmp_ge 249 d_Md_cut_118 (by decide) (fun q_c => ?_) (fun q_c => ?_)
    · have hfc : f = 12 := by have := (nI_leI (a := 12) (b := f) (by decide) (by omega)).mp q_c; omega
      subst hfc
      exact K h po pa pw _ hz h91 h92 h93 (fun r hr => by rcases Nat.lt_succ_iff_lt_or_eq.mp hr with h1 | rfl; exact hB r h1; exact hb)
    · have hfc : f < 12 := by have := mt (nI_leI (a := 12) (b := f) (by decide) (by omega)).mpr q_c; omega
      refine pw_aload_n d_Md_cut_121 rfl rfl ?_
      refine pw_iload_n d_Md_cut_122 rfl rfl ?_
      refine pw_callV1 (R' := (zroom 0 0 0)) (h2 := h) [.int (nI f)] (fun q => nomatch q) d_Md_cut_123 lk_Md_100 hm rfl rfl rfl (c_isThere hm hfc hjn) ?_
      refine pw_if_eq 138 d_Md_cut_126 (by decide) (fun q_h => ?_) (fun q_h => ?_)
      · refine pw_iconst (x := 1) d_Md_cut_138 (by decide) ?_
        refine pw_istore_n d_Md_cut_139 rfl (by decide) (pl' := [some (.ref 84), some (.int (nI p)), some (.int (nI f)), some (.int (1))]) rfl ?_
        have hvv : (1 : Int32) = if 6 ≤ f ∨ f < jn then zmo ml pt p f else 1 := (if_neg (z0 q_h)).symm
        refine l_sg1 hm h91 (show p < 220 by omega) hfc hjn (fun h1 k1 => ?_)
        refine l_sg2 (zg_ne k1 (by decide) hm) (zg_ne k1 (by decide) h92) (show p < 220 by omega) hfc hjn (fun h2 k2 => ?_)
        refine l_sg3 (zg_ne k2 (by decide) (zg_ne k1 (by decide) hm)) (zg_ne k2 (by decide) (zg_ne k1 (by decide) h93)) (show p < 220 by omega) hfc hjn (fun h3 k3 => ?_)
        refine pw_iinc (y := nI (f + 1)) d_Md_cut_243 rfl (nI_1 f) (by decide) (pl' := [some (.ref 84), some (.int (nI p)), some (.int (nI (f + 1))), some (.int 1)]) rfl ?_
        refine pw_goto 115 d_Md_cut_246 (by decide) ?_
        exact ih (f + 1) h3 _ _ _ _ (by omega) (by omega) (zsm_st (zsm_st (zsm_st hz k1 (by decide)) k2 (by decide)) k3 (by decide)) (zg_ne k3 (by decide) (zg_ne k2 (by decide) (zg_eq k1 h91))) (zg_ne k3 (by decide) (zg_eq k2 (zg_ne k1 (by decide) h92))) (zg_eq k3 (zg_ne k2 (by decide) (zg_ne k1 (by decide) h93))) (fun r hr => zBt_k (pk_un (by omega)) (pk_un (by omega)) (pk_un (by omega)) (hB r hr)) (zBt_s hfc hjn hb hvv pk_us pk_us pk_us)
      · refine pw_aload_n d_Md_cut_129 rfl rfl ?_
        refine pw_iload_n d_Md_cut_130 rfl rfl ?_
        refine pw_iload_n d_Md_cut_131 rfl rfl ?_
        refine pw_callV1 (R' := (zroom 0 0 0)) (h2 := h) [.int (nI p), .int (nI f)] (fun q => nomatch q) d_Md_cut_132 lk_Md_108 hm rfl rfl rfl (c_more hm h86 h90 (show p < 220 by omega) hfc) ?_
        refine pw_goto 139 d_Md_cut_135 (by decide) ?_
        refine pw_istore_n d_Md_cut_139 rfl (by decide) (pl' := [some (.ref 84), some (.int (nI p)), some (.int (nI f)), some (.int (zmo ml pt p f))]) rfl ?_
        have hvv : (zmo ml pt p f : Int32) = if 6 ≤ f ∨ f < jn then zmo ml pt p f else 1 := (if_pos (z1 q_h)).symm
        refine l_sg1 hm h91 (show p < 220 by omega) hfc hjn (fun h1 k1 => ?_)
        refine l_sg2 (zg_ne k1 (by decide) hm) (zg_ne k1 (by decide) h92) (show p < 220 by omega) hfc hjn (fun h2 k2 => ?_)
        refine l_sg3 (zg_ne k2 (by decide) (zg_ne k1 (by decide) hm)) (zg_ne k2 (by decide) (zg_ne k1 (by decide) h93)) (show p < 220 by omega) hfc hjn (fun h3 k3 => ?_)
        refine pw_iinc (y := nI (f + 1)) d_Md_cut_243 rfl (nI_1 f) (by decide) (pl' := [some (.ref 84), some (.int (nI p)), some (.int (nI (f + 1))), some (.int (zmo ml pt p f))]) rfl ?_
        refine pw_goto 115 d_Md_cut_246 (by decide) ?_
        exact ih (f + 1) h3 _ _ _ _ (by omega) (by omega) (zsm_st (zsm_st (zsm_st hz k1 (by decide)) k2 (by decide)) k3 (by decide)) (zg_ne k3 (by decide) (zg_ne k2 (by decide) (zg_eq k1 h91))) (zg_ne k3 (by decide) (zg_eq k2 (zg_ne k1 (by decide) h92))) (zg_eq k3 (zg_ne k2 (by decide) (zg_ne k1 (by decide) h93))) (fun r hr => zBt_k (pk_un (by omega)) (pk_un (by omega)) (pk_un (by omega)) (hB r hr)) (zBt_s hfc hjn hb hvv pk_us pk_us pk_us)
set_option maxRecDepth 20000 in
set_option maxHeartbeats 2000000 in
theorem l_cutP {G : zG} {h0 : zH} {th : Int32} {jn dr pn bl tn : Nat} (hm0 : zMo h0 th jn dr pn bl tn) {ml pt : Nat → Int32} (h860 : h0[86]? = some (.inl (0, 48, .inl ml))) (h900 : h0[90]? = some (.inl (0, 880, .inl pt))) (hjn : jn ≤ 6) (hpn : pn ≤ 220) {Q : zO → zH → Prop} (K : ∀ (h : zH) (po pa pw : Nat → Int32) (o1 o2 o3 : Option Value), zsm [91, 92, 93] h0 h → h[91]? = some (.inl (0, 220, .inl po)) → h[92]? = some (.inl (0, 220, .inl pa)) → h[93]? = some (.inl (0, 220, .inl pw)) → (∀ r, r < pn → zBt jn ml pt po pa pw r 12) → PW G M_Md_cut (zroom 3 0 0) false Q 255 [some (.ref 84), o1, o2, o3] [] h 0 0) : ∀ (n p : Nat) (h : zH) (po pa pw : Nat → Int32) (o2 o3 : Option Value), pn - p < n → p ≤ pn → zsm [91, 92, 93] h0 h → h[91]? = some (.inl (0, 220, .inl po)) → h[92]? = some (.inl (0, 220, .inl pa)) → h[93]? = some (.inl (0, 220, .inl pw)) → (∀ r, r < p → zBt jn ml pt po pa pw r 12) → PW G M_Md_cut (zroom 3 0 0) false Q 84 [some (.ref 84), some (.int (nI p)), o2, o3] [] h 0 0 := by
  intro n
  induction n with
  | zero => intro p h po pa pw o2 o3 hn; exact absurd hn (Nat.not_lt_zero _)
  | succ n ih =>
    intro p h po pa pw o2 o3 hn hp hz h91 h92 h93 hB
    have hm := zsm_at hz (by decide) hm0
    have h86 := zsm_at hz (by decide) h860
    have h90 := zsm_at hz (by decide) h900
    refine pw_iload_n d_Md_cut_84 rfl rfl ?_
    refine pw_aload_n d_Md_cut_85 rfl rfl ?_
    refine pw_get d_Md_cut_86 fl_Md_94 hm rfl ?_
    refine pw_icmp_ge 255 d_Md_cut_89 (by decide) (fun q_c => ?_) (fun q_c => ?_)
    · have hpc : p = pn := by have := (nI_leI (a := pn) (b := p) (by omega) (by omega)).mp q_c; omega
      subst hpc
      exact K h po pa pw _ _ _ hz h91 h92 h93 hB
    · have hpc : p < pn := by have := mt (nI_leI (a := pn) (b := p) (by omega) (by omega)).mpr q_c; omega
      refine pw_aload_n d_Md_cut_92 rfl rfl ?_
      refine pw_get d_Md_cut_93 fl_Md_29 hm rfl ?_
      refine pw_iload_n d_Md_cut_96 rfl rfl ?_
      refine pw_iconst (x := 0) d_Md_cut_97 (by decide) ?_
      obtain ⟨h_1, eh_1⟩ : ∃ x_9, x_9 = List.set h (91) (.inl (0, 220, .inl (upd po p (0)))) := ⟨_, rfl⟩
      refine pw_iast rfl d_Md_cut_98 h91 rfl rfl (by omega) (by decide) eh_1.symm ?_
      refine pw_aload_n d_Md_cut_99 rfl rfl ?_
      refine pw_get d_Md_cut_100 fl_Md_32 (zg_ne eh_1 (by decide) hm) rfl ?_
      refine pw_iload_n d_Md_cut_103 rfl rfl ?_
      refine pw_iconst (x := 0) d_Md_cut_104 (by decide) ?_
      obtain ⟨h_2, eh_2⟩ : ∃ x_9, x_9 = List.set h_1 (92) (.inl (0, 220, .inl (upd pa p (0)))) := ⟨_, rfl⟩
      refine pw_iast rfl d_Md_cut_105 (zg_ne eh_1 (by decide) h92) rfl rfl (by omega) (by decide) eh_2.symm ?_
      refine pw_aload_n d_Md_cut_106 rfl rfl ?_
      refine pw_get d_Md_cut_107 fl_Md_35 (zg_ne eh_2 (by decide) (zg_ne eh_1 (by decide) hm)) rfl ?_
      refine pw_iload_n d_Md_cut_110 rfl rfl ?_
      refine pw_iconst (x := 0) d_Md_cut_111 (by decide) ?_
      obtain ⟨h_3, eh_3⟩ : ∃ x_9, x_9 = List.set h_2 (93) (.inl (0, 220, .inl (upd pw p (0)))) := ⟨_, rfl⟩
      refine pw_iast rfl d_Md_cut_112 (zg_ne eh_2 (by decide) (zg_ne eh_1 (by decide) h93)) rfl rfl (by omega) (by decide) eh_3.symm ?_
      refine pw_iconst (x := 0) d_Md_cut_113 (by decide) ?_
      refine pw_istore_n d_Md_cut_114 rfl (by decide) (pl' := [some (.ref 84), some (.int (nI p)), some (.int (0)), o3]) rfl ?_
      refine l_cutF hm0 h860 h900 hjn hpn hpc (fun h4 po4 pa4 pw4 o4 k1 k2 k3 k4 k5 => ?_) 13 0 _ _ _ _ _ (by decide) (by decide) (zsm_st (zsm_st (zsm_st hz eh_1 (by decide)) eh_2 (by decide)) eh_3 (by decide)) (zg_ne eh_3 (by decide) (zg_ne eh_2 (by decide) (zg_eq eh_1 h91))) (zg_ne eh_3 (by decide) (zg_eq eh_2 (zg_ne eh_1 (by decide) h92))) (zg_eq eh_3 (zg_ne eh_2 (by decide) (zg_ne eh_1 (by decide) h93))) (fun r hr => zBt_k (pk_un (by omega)) (pk_un (by omega)) (pk_un (by omega)) (hB r hr)) (zBt_0 pk_us pk_us pk_us)
      refine pw_iinc (y := nI (p + 1)) d_Md_cut_249 rfl (nI_1 p) (by decide) (pl' := [some (.ref 84), some (.int (nI (p + 1))), some (.int (nI 12)), o4]) rfl ?_
      refine pw_goto 84 d_Md_cut_252 (by decide) ?_
      exact ih (p + 1) h4 po4 pa4 pw4 _ _ (by omega) (by omega) k1 k2 k3 k4 k5
