section PWiu
variable {G : zG} {M M' : zM} {R R' : Room} {P P' : Bool} {Q Q' : zO → zH → Prop} {pc : Nat} {pl : List (Option Value)} {st : List Value} {h : zH} {nc ns : Nat}
theorem pw_callIu (A : List Value) {idx k : Nat} {stk : List Value} {F : zH → Prop} (hPP : P = true → P' = true) (hd : decode M.code pc = .ok (.invokespecial idx, 3)) (hl : zLI M.nm.cls idx M' A.length) (hst : stk = A.reverse ++ .ref k :: st) (hA : ∀ v ∈ A, v.category = 1) (hmax : A.length + 1 ≤ M'.maxL) (hf : zfit M' R' R nc ns) (hw : (st.map fun v => v.category).sum ≤ 8)
    (hb : PW G M' R' P' (zu F) 0 (zentry M'.maxL (.ref k :: A)) [] h 0 0) (kk : ∀ h', F h' → PW G M R P Q (pc + 3) pl st h' (nc + R'.cells) (ns + R'.slots)) : PW G M R P Q pc pl stk h nc ns :=
  pw_callI A hPP hd hl hst hA hmax hf hw hb (fun r h' q => ⟨_, q.1⟩) (fun v h' q => by obtain ⟨e, hF⟩ := q; cases e; exact kk h' hF)
end PWiu
/-- the rock as it is made -/
def zRS (h : zH) (sx sy sz kn : Int32) (A B C D : Nat → Int32) (S : zPS) : Prop := zRk h 0 0 sx sy sz kn (fun _ => 0) (fun _ => 0) (fun _ => 0) (fun _ => 0) (fun _ => 0) (fun _ => 0) ∧ zPl h A B C D ∧ zPp h S ∧ zCr h
theorem zRk_kp {h h' : zH} {jc bc : Nat} {sx sy sz kn : Int32} {sd fc cc nu pb so : Nat → Int32} (k : ∀ {j : Nat} {c : zE}, 34 ≤ j → j < 52 → j ≠ 35 → h[j]? = some c → h'[j]? = some c) (hr : zRk h jc bc sx sy sz kn sd fc cc nu pb so) : zRk h' jc bc sx sy sz kn sd fc cc nu pb so :=
  ⟨k (by decide) (by decide) (by decide) hr.1, k (by decide) (by decide) (by decide) hr.2.1, k (by decide) (by decide) (by decide) hr.2.2.1, k (by decide) (by decide) (by decide) hr.2.2.2.1, k (by decide) (by decide) (by decide) hr.2.2.2.2.1, k (by decide) (by decide) (by decide) hr.2.2.2.2.2.1, k (by decide) (by decide) (by decide) hr.2.2.2.2.2.2⟩
theorem zPp_kp {h h' : zH} {S : zPS} (k : ∀ {j : Nat} {c : zE}, 34 ≤ j → j < 52 → j ≠ 35 → h[j]? = some c → h'[j]? = some c) (hr : zPp h S) : zPp h' S :=
  ⟨k (by decide) (by decide) (by decide) hr.1, k (by decide) (by decide) (by decide) hr.2.1, k (by decide) (by decide) (by decide) hr.2.2.1, k (by decide) (by decide) (by decide) hr.2.2.2.1, k (by decide) (by decide) (by decide) hr.2.2.2.2.1, k (by decide) (by decide) (by decide) hr.2.2.2.2.2.1, k (by decide) (by decide) (by decide) hr.2.2.2.2.2.2⟩
theorem zCr_kp {h h' : zH} (k : ∀ {j : Nat} {c : zE}, 34 ≤ j → j < 52 → j ≠ 35 → h[j]? = some c → h'[j]? = some c) (hr : zCr h) : zCr h' := by
  obtain ⟨⟨a1, a2, a3, e1⟩, ⟨b1, b2, b3, e2⟩, ⟨c1, c2, c3, e3⟩⟩ := hr
  exact ⟨⟨a1, a2, a3, k (by decide) (by decide) (by decide) e1⟩, ⟨b1, b2, b3, k (by decide) (by decide) (by decide) e2⟩, ⟨c1, c2, c3, k (by decide) (by decide) (by decide) e3⟩⟩
theorem zRS_set {h h1 h2 : zH} {sx sy sz kn : Int32} {A B C D : Nat → Int32} {S : zPS} {j : Nat} {u v w d : Int32} (hj : j < 12) (hR : zRS h sx sy sz kn A B C D S) (e1 : h1 = h.set (53 + 2 * j) (.inr (0, [.int u, .int v, .int w]))) (e2 : h2 = h1.set (52 + 2 * j) (.inr (2, [.ref (53 + 2 * j), .int d]))) : zRS h2 sx sy sz kn (upd A j u) (upd B j v) (upd C j w) (upd D j d) S := by
  have k : ∀ {i : Nat} {c : zE}, 34 ≤ i → i < 52 → i ≠ 35 → h[i]? = some c → h2[i]? = some c := fun a b _ q => zg_ne e2 (by omega) (zg_ne e1 (by omega) q)
  exact ⟨zRk_kp k hR.1, zPl_set hj hR.2.1 e1 e2, zPp_kp k hR.2.2.1, zCr_kp k hR.2.2.2⟩
theorem zPl_cg {h : zH} {A B C D A' B' C' D' : Nat → Int32} (he : ∀ j, j < 12 → A' j = A j ∧ B' j = B j ∧ C' j = C j ∧ D' j = D j) (hpl : zPl h A B C D) : zPl h A' B' C' D' := by
  refine ⟨hpl.1, fun j hj => ?_, fun j hj => ?_⟩
  · rw [(he j hj).2.2.2]; exact hpl.2.1 j hj
  · obtain ⟨e1, e2, e3, -⟩ := he j hj
    show zAr h _ (A' j) (B' j) (C' j)
    rw [e1, e2, e3]; exact hpl.2.2 j hj
/-- the box's planes -/
def zm0 (sx sy sz : Int32) : Nat → Int32 := fun x => if x = 24 then 1 else if x = 28 then 1 else if x = 31 then sx else if x = 33 then 1 else if x = 37 then 1 else if x = 39 then sy else if x = 42 then 1 else if x = 46 then 1 else if x = 47 then sz else 0
def kq (f : Nat) : Int32 := nI (2 ^ f - 64)
def capq (f : Nat) : Nat := (f - 6) * (f - 7) * (f - 8) / 6
theorem kq_s : ∀ f, f < 12 → 6 ≤ f → kq f ||| (1 <<< (nI f &&& 31)) = kq (f + 1) := by decide +kernel
theorem kq_b : ∀ f, f < 12 → 6 ≤ f → ¬ bt (kq f) f = true := by decide +kernel
theorem kq_c : ∀ f, f < 12 → 6 ≤ f → capq f + zco (kq f) 12 0 ≤ capq (f + 1) := by decide +kernel
theorem capq_le : ∀ f, f < 13 → 6 ≤ f → capq f ≤ 20 := by decide +kernel
theorem kq_12 : kq 12 = zkn 0 := by decide +kernel
theorem kq_6 : kq 6 = 0 := by decide +kernel
theorem zm0_A {sx sy sz : Int32} : ∀ j, j < 12 → mA (zm0 sx sy sz) j = (upd (upd (upd (upd (upd (upd (fun _ => 0) 6 1) 7 1) 8 0) 9 0) 10 0) 11 0) j ∧ mB (zm0 sx sy sz) j = (upd (upd (upd (upd (upd (upd (fun _ => 0) 6 0) 7 0) 8 1) 9 1) 10 0) 11 0) j ∧ mC (zm0 sx sy sz) j = (upd (upd (upd (upd (upd (upd (fun _ => 0) 6 0) 7 0) 8 0) 9 0) 10 1) 11 1) j ∧ mD (zm0 sx sy sz) j = (upd (upd (upd (upd (upd (upd (fun _ => 0) 6 0) 7 sx) 8 0) 9 sy) 10 0) 11 sz) j := by
  intro j hj
  have hc : j = 0 ∨ j = 1 ∨ j = 2 ∨ j = 3 ∨ j = 4 ∨ j = 5 ∨ j = 6 ∨ j = 7 ∨ j = 8 ∨ j = 9 ∨ j = 10 ∨ j = 11 := by omega
  rcases hc with rfl | rfl | rfl | rfl | rfl | rfl | rfl | rfl | rfl | rfl | rfl | rfl <;> exact ⟨rfl, rfl, rfl, rfl⟩
theorem zm0_pb {sx sy sz : Int32} (hx : zsz sx) (hy : zsz sy) (hz : zsz sz) : zpb (mA (zm0 sx sy sz)) (mB (zm0 sx sy sz)) (mC (zm0 sx sy sz)) (mD (zm0 sx sy sz)) := by
  have b0 : ∀ M : Int, 0 ≤ M → zbd M (0 : Int32) (0 : Int32).toInt := fun M h => ⟨rfl, by show -M ≤ 0; omega, h⟩
  have b1 : ∀ M : Int, 1 ≤ M → zbd M (1 : Int32) (1 : Int32).toInt := fun M h => ⟨rfl, by show -M ≤ 1; omega, h⟩
  have bs : ∀ s : Int32, zsz s → zbd 100 s s.toInt := fun s h => ⟨rfl, by have := h.1; omega, by have := h.2; omega⟩
  intro j hj
  have hc : j = 0 ∨ j = 1 ∨ j = 2 ∨ j = 3 ∨ j = 4 ∨ j = 5 ∨ j = 6 ∨ j = 7 ∨ j = 8 ∨ j = 9 ∨ j = 10 ∨ j = 11 := by omega
  rcases hc with rfl | rfl | rfl | rfl | rfl | rfl | rfl | rfl | rfl | rfl | rfl | rfl
  · exact ⟨b0 _ (by decide), b0 _ (by decide), b0 _ (by decide), b0 _ (by decide)⟩
  · exact ⟨b0 _ (by decide), b0 _ (by decide), b0 _ (by decide), b0 _ (by decide)⟩
  · exact ⟨b0 _ (by decide), b0 _ (by decide), b0 _ (by decide), b0 _ (by decide)⟩
  · exact ⟨b0 _ (by decide), b0 _ (by decide), b0 _ (by decide), b0 _ (by decide)⟩
  · exact ⟨b0 _ (by decide), b0 _ (by decide), b0 _ (by decide), b0 _ (by decide)⟩
  · exact ⟨b0 _ (by decide), b0 _ (by decide), b0 _ (by decide), b0 _ (by decide)⟩
  · exact ⟨b1 _ (by decide), b0 _ (by decide), b0 _ (by decide), b0 _ (by decide)⟩
  · exact ⟨b1 _ (by decide), b0 _ (by decide), b0 _ (by decide), bs _ hx⟩
  · exact ⟨b0 _ (by decide), b1 _ (by decide), b0 _ (by decide), b0 _ (by decide)⟩
  · exact ⟨b0 _ (by decide), b1 _ (by decide), b0 _ (by decide), bs _ hy⟩
  · exact ⟨b0 _ (by decide), b0 _ (by decide), b1 _ (by decide), b0 _ (by decide)⟩
  · exact ⟨b0 _ (by decide), b0 _ (by decide), b1 _ (by decide), bs _ hz⟩
theorem zPg_0 {A B C D : Nat → Int32} {sx sy sz : Int32} {S : zPS} (hS : S.1 = 0) : zPg (kq 6) A B C D sx sy sz S := by
  refine ⟨fun p hp => absurd hp (by omega), ⟨fun p hp => absurd hp (by omega), fun p r hp => absurd hp (by omega)⟩, fun a b c d => ⟨?_, ?_⟩⟩
  · rintro ⟨p, hp, -⟩; omega
  · rintro ⟨a, b, c, -, -, -, h, -⟩
    have : bt (kq 6) a = true := h
    rw [kq_6, b_0] at this
    cases this
set_option maxRecDepth 20000 in
set_option maxHeartbeats 2000000 in
theorem l_rfac {G : zG} {h0 : zH} {sx sy sz : Int32} (hx : zsz sx) (hy : zsz sy) (hz : zsz sz) : ∀ (n f : Nat) (h : zH) (S : zPS), 12 - f < n → 6 ≤ f → f ≤ 12 → zRS h sx sy sz (kq f) (mA (zm0 sx sy sz)) (mB (zm0 sx sy sz)) (mC (zm0 sx sy sz)) (mD (zm0 sx sy sz)) S → zPg (kq f) (mA (zm0 sx sy sz)) (mB (zm0 sx sy sz)) (mC (zm0 sx sy sz)) (mD (zm0 sx sy sz)) sx sy sz S → S.1 ≤ capq f → zlow 34 h0 h → h.length = 76 → PW G M_Rock_init (zroom 5 41 1890) false (fun r h' => r = .inl none ∧ zlow 34 h0 h' ∧ h'.length = 76 ∧ ∃ (S : zPS) (T : zBS), zPg (zkn 0) (mA (zm0 sx sy sz)) (mB (zm0 sx sy sz)) (mC (zm0 sx sy sz)) (mD (zm0 sx sy sz)) sx sy sz S ∧ S.1 ≤ 20 ∧ T = zbl (zkn 0) S.2.2.2.2.2.1 S.2.2.2.2.2.2 S.1 (2 ^ 0) (0, (fun _ => 0), (fun _ => 0), (fun _ => 0), (fun _ => 0)) 64 ∧ zRb h' 0 sx sy sz (zkn 0) T (fun _ => 0) (fun _ => 0) ∧ zPl h' (mA (zm0 sx sy sz)) (mB (zm0 sx sy sz)) (mC (zm0 sx sy sz)) (mD (zm0 sx sy sz)) ∧ zPp h' S ∧ zCr h') 254 [some (.ref 34), some (.int sx), some (.int sy), some (.int sz), some (.int (nI f))] [] h 41 1890 := by
  intro n
  induction n with
  | zero => intro f h S hn; exact absurd hn (Nat.not_lt_zero _)
  | succ n ih =>
    intro f h S hn h6 h12 hR hg hc hlo hl
    refine pw_iload d_Rock_init_254 rfl ?_
    refine pw_bipush (x := 12) d_Rock_init_256 (by decide) ?_
    refine pw_icmp_ge 273 d_Rock_init_258 (by decide) (fun q_i => ?_) (fun q_i => ?_)
    · have hf : f = 12 := by have := (nI_leI (a := 12) (b := f) (by decide) (by omega)).mp q_i; omega
      subst hf
      rw [kq_12] at hR hg
      have hc' : S.1 ≤ 20 := Nat.le_trans hc (by decide)
      refine pw_aload_n d_Rock_init_273 rfl rfl ?_
      refine pw_callVu (R' := (zroom 2 0 0)) [] (fun q => nomatch q) d_Rock_init_274 lk_Rock_84 hR.1.1 rfl rfl rfl (c_findBlocks hR.2.2.1 (by omega) hR.1 (by decide)) (fun h1 hh => ?_)
      obtain ⟨hb, hs⟩ := hh
      refine pw_return d_Rock_init_277 rfl (by decide) (by decide) ?_
      refine ⟨rfl, zlow_z hlo hs (by decide), hs.1.trans hl, S, _, hg, hc', rfl, hb, ?_, ?_, ?_⟩
      · exact ⟨zsm_at hs (by decide) hR.2.1.1, fun j hj => zsm_at hs (by simp only [List.mem_cons, List.not_mem_nil, or_false]; omega) (hR.2.1.2.1 j hj), fun j hj => zsm_at hs (by simp only [List.mem_cons, List.not_mem_nil, or_false]; omega) (hR.2.1.2.2 j hj)⟩
      · exact zPt_sm hs (fun j a1 a2 => by simp only [List.mem_cons, List.not_mem_nil, or_false]; omega) hR.2.2.1
      · obtain ⟨⟨a1, a2, a3, e1⟩, ⟨b1, b2, b3, e2⟩, ⟨c1, c2, c3, e3⟩⟩ := hR.2.2.2
        exact ⟨⟨a1, a2, a3, zsm_at hs (by decide) e1⟩, ⟨b1, b2, b3, zsm_at hs (by decide) e2⟩, ⟨c1, c2, c3, zsm_at hs (by decide) e3⟩⟩
    · have hf : f < 12 := by have := mt (nI_leI (a := 12) (b := f) (by decide) (by omega)).mpr q_i; omega
      have hcc := kq_c f hf h6
      have hcl := capq_le (f + 1) (by omega) (by omega)
      refine pw_aload_n d_Rock_init_261 rfl rfl ?_
      refine pw_iload d_Rock_init_262 rfl ?_
      refine pw_callVu (R' := (zroom 4 0 0)) [.int (nI f)] (fun q => nomatch q) d_Rock_init_264 lk_Rock_80 hR.1.1 rfl rfl rfl (c_addFace hR.2.2.1 hR.1 hR.2.1 hf hR.2.2.2 (by omega)) (fun h1 hh => ?_)
      obtain ⟨g1, g2, g3, g4, hs⟩ := hh
      have hpf := zPg_face (zm0_pb hx hy hz) hf hx hy hz (kq_b f hf h6) hg
      have hle := zout_le (kn := kq f ||| (1 <<< (nI f &&& 31))) (sx := sx) (sy := sy) (sz := sz) (ot := kq f) (A := mA (zm0 sx sy sz)) (B := mB (zm0 sx sy sz)) (C := mC (zm0 sx sy sz)) (D := mD (zm0 sx sy sz)) (f := f) 12 0 (ztl (mA (zm0 sx sy sz)) (mB (zm0 sx sy sz)) (mC (zm0 sx sy sz)) (mD (zm0 sx sy sz)) f S S.1)
      have hle' : (zout (kq f ||| (1 <<< (nI f &&& 31))) sx sy sz (mA (zm0 sx sy sz)) (mB (zm0 sx sy sz)) (mC (zm0 sx sy sz)) (mD (zm0 sx sy sz)) (kq f) f 12 0 (ztl (mA (zm0 sx sy sz)) (mB (zm0 sx sy sz)) (mC (zm0 sx sy sz)) (mD (zm0 sx sy sz)) f S S.1)).1 ≤ S.1 + zco (kq f) 12 0 := hle
      rw [kq_s f hf h6] at g1 g2 hpf hle'
      refine pw_iinc (y := nI (f + 1)) d_Rock_init_267 rfl (nI_1 f) (by decide) (pl' := [some (.ref 34), some (.int sx), some (.int sy), some (.int sz), some (.int (nI (f + 1)))]) rfl ?_
      refine pw_goto 254 d_Rock_init_270 (by decide) ?_
      exact ih (f + 1) h1 _ (by omega) (by omega) (by omega) ⟨g2, g3, g1, g4⟩ hpf.1 (by omega) (zlow_z hlo hs (by decide)) (hs.1.trans hl)
