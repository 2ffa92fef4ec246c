theorem lt_i {a b : Int32} : a < b ↔ a.toInt < b.toInt := Int32.lt_iff_toInt_lt
theorem le_i {a b : Int32} : a ≤ b ↔ a.toInt ≤ b.toInt := Int32.le_iff_toInt_le
theorem iOp_0 {op : Int32} {mo : Nat → Int32} {f : Nat} (h6 : 6 ≤ f) (h12 : f < 12) (h : iOp op mo) : (if (op >>> (nI f &&& 31)) &&& 1 = 1 then (1 : Int32) else 0) = mo f := by
  obtain ⟨h1, h2⟩ := h f h6 h12
  by_cases q : (op >>> (nI f &&& 31)) &&& 1 = 1
  · rw [if_pos q]
    rw [zB_bt _ (by omega), h1] at q
    exact (h2.resolve_left q).symm
  · rw [if_neg q]
    rw [zB_bt _ (by omega), h1] at q
    exact (Decidable.not_not.mp q).symm
theorem iOp_same {op : Int32} {mo : Nat → Int32} {f : Nat} {b : Int32} (hb : mo f = b) (h : iOp op mo) : iOp op (upd mo f b) := fun g g6 g12 => by
  by_cases e : g = f
  · subst e; rw [pk_us, ← hb]; exact h g g6 g12
  · rw [pk_un e]; exact h g g6 g12
theorem iOp_flip {op : Int32} {mo : Nat → Int32} {f : Nat} {b : Int32} (h6 : 6 ≤ f) (h12 : f < 12) (hb01 : b = 0 ∨ b = 1) (hb : ¬ mo f = b) (h : iOp op mo) : iOp (op ^^^ (1 <<< ((nI f) &&& 31))) (upd mo f b) := fun g g6 g12 => by
  rw [b_xor, zbt_sh (by omega) (by omega)]
  by_cases e : g = f
  · subst e
    rw [pk_us]
    obtain ⟨h1, h2⟩ := h g g6 g12
    refine ⟨?_, hb01⟩
    rcases h2 with h2 | h2 <;> rcases hb01 with rfl | rfl
    · exact absurd h2 hb
    · have : bt op g = false := by rw [Bool.eq_false_iff]; exact fun q => h1.mp q h2
      simp [this]
    · have : bt op g = true := h1.mpr (by rw [h2]; decide)
      simp [this]
    · exact absurd h2 hb
  · rw [pk_un e]
    simp only [e, decide_false, Bool.xor_false]
    exact h g g6 g12
theorem zmT_x {mT : Nat → Int32} {d : Nat} {u v w : Int32} : (fun i => upd (upd (upd mT (3 * d) u) (3 * d + 1) v) (3 * d + 2) w (3 * i)) = upd (fun i => mT (3 * i)) d u := by
  funext i
  by_cases e : i = d
  · subst e; rw [pk_un (by omega), pk_un (by omega), pk_us, pk_us]
  · rw [pk_un (by omega), pk_un (by omega), pk_un (by omega), pk_un e]
theorem zmT_y {mT : Nat → Int32} {d : Nat} {u v w : Int32} : (fun i => upd (upd (upd mT (3 * d) u) (3 * d + 1) v) (3 * d + 2) w (3 * i + 1)) = upd (fun i => mT (3 * i + 1)) d v := by
  funext i
  by_cases e : i = d
  · subst e; rw [pk_un (by omega), pk_us, pk_us]
  · rw [pk_un (by omega), pk_un (by omega), pk_un (by omega), pk_un e]
theorem zmT_z {mT : Nat → Int32} {d : Nat} {u v w : Int32} : (fun i => upd (upd (upd mT (3 * d) u) (3 * d + 1) v) (3 * d + 2) w (3 * i + 2)) = upd (fun i => mT (3 * i + 2)) d w := by
  funext i
  by_cases e : i = d
  · subst e; rw [pk_us, pk_us]
  · rw [pk_un (by omega), pk_un (by omega), pk_un (by omega), pk_un e]
theorem e_open {G : zG} {h : zH} (hN : iN h) {a b : Int32} (hb01 : b = 0 ∨ b = 1) : ∃ D : Int32 → zH → Prop, PW G M_Law_open (zroom 8 1 6) false (fun r h2 => ∃ k : Int32, r = .inl (some (.int k)) ∧ D k h2) 0 (zentry 5 [.ref 0, .int a, .int b, .ref 104]) [] h 0 0 ∧ ∀ k h2, D k h2 → (∃ fs, h2[84]? = some (.inr (6, fs))) ∧ PW G M_Md_open (zroom 1 0 0) false (fun r h3 => ∃ t : Int32, r = .inl (some (.int t)) ∧ iE h3 k (if t = 0 then 0 else 1)) 0 (zentry 4 [.ref 84, .int a, .int b]) [] h2 0 0 := by
  obtain ⟨⟨th, op, tc, dc, jc, bc, pn, ms, ml, mo, mT, mp, pt, po, pa, pw, bs, bf, tr, tk, tb, ty, sd, fc, cc, nu, pb, so, S, hC, hR, hG, hK, hd, ho, hm⟩, fl, hO⟩ := hN
  by_cases hw : 6 ≤ a ∧ a ≤ 11
  · obtain ⟨f, rfl, hf⟩ := nI_ex (w := a) (by have := le_i.mp hw.1; have e : (6 : Int32).toInt = 6 := rfl; omega)
    have h6 : 6 ≤ f := by have := le_i.mp hw.1; have e : (6 : Int32).toInt = 6 := rfl; omega
    have h12 : f < 12 := by have := le_i.mp hw.2; have e : (11 : Int32).toInt = 11 := rfl; omega
    have hop := iOp_0 h6 h12 ho
    by_cases hb : mo f = b
    · refine pk_R (gw_open ⟨by decide, by decide, by decide, by decide⟩ hC.1.1 hO (r_open0 hC h6 h12 (hop.trans hb)) (fun t h' q => zOu_z q.1 hO)) (fun t1 h1 h2 q1 e => ?_)
      obtain ⟨hz1, rfl, hC1⟩ := q1
      have hR2 := rAll_w hz1 e hR
      refine ⟨⟨_, hR2.1⟩, pw_mono (fun r h3 q => ?_) (p_open hR2 hb01)⟩
      obtain ⟨t, rfl, hz, q⟩ := q
      refine ⟨t, rfl, ?_⟩
      rcases q with ⟨n, -⟩ | ⟨f9, g6, g12, hf9, rfl, hR3⟩
      · exact absurd hw n
      · have : f = f9 := nI_inj (by omega) (by omega) hf9
        subst this
        exact fin_R hC1 (zOu_z hz1 hO) e hz hR3 hG hK hd (iOp_same hb ho) hm (by rw [if_pos hb])
    · refine pk_R (gw_open ⟨by decide, by decide, by decide, by decide⟩ hC.1.1 hO (r_open1 hC h6 h12 (fun q => hb (hop.symm.trans q))) (fun t h' q => zOu_z q.1 hO)) (fun t1 h1 h2 q1 e => ?_)
      obtain ⟨hz1, rfl, hC1⟩ := q1
      have hR2 := rAll_w hz1 e hR
      refine ⟨⟨_, hR2.1⟩, pw_mono (fun r h3 q => ?_) (p_open hR2 hb01)⟩
      obtain ⟨t, rfl, hz, q⟩ := q
      refine ⟨t, rfl, ?_⟩
      rcases q with ⟨n, -⟩ | ⟨f9, g6, g12, hf9, rfl, hR3⟩
      · exact absurd hw n
      · have : f = f9 := nI_inj (by omega) (by omega) hf9
        subst this
        exact fin_R hC1 (zOu_z hz1 hO) e hz hR3 hG hK hd (iOp_flip h6 h12 hb01 hb ho) hm (by rw [if_neg hb])
  · refine pk_T (gt_open1 (F := fun h2 => h2 = h ++ [.inr (9, [])]) ⟨by decide, by decide, by decide, by decide⟩ hC.1.1 (t_open hC hw) (fun r h' q => ⟨⟨_, q.1, by rw [q.2]; exact zp_eq rfl rfl⟩, q.2⟩)) (fun h2 e => ?_)
    have hR2 := rAll_p hO e hR
    refine ⟨⟨_, hR2.1⟩, pw_mono (fun r h3 q => ?_) (p_open hR2 hb01)⟩
    obtain ⟨t, rfl, hz, q⟩ := q
    refine ⟨t, rfl, ?_⟩
    rcases q with ⟨-, q⟩ | ⟨f9, g6, g12, rfl, -⟩
    · exact fin_T hC hO e hz q hG hK hd ho hm (by decide)
    · exact absurd ⟨(nI_leI (a := 6) (b := f9) (by decide) (by omega)).mpr g6, (nI_leI (a := f9) (b := 11) (by omega) (by decide)).mpr (by omega)⟩ hw
theorem e_direction {G : zG} {h : zH} (hN : iN h) {a b c : Int32} : ∃ D : Int32 → zH → Prop, PW G M_Law_direction (zroom 8 1 6) false (fun r h2 => ∃ k : Int32, r = .inl (some (.int k)) ∧ D k h2) 0 (zentry 6 [.ref 0, .int a, .int b, .int c, .ref 104]) [] h 0 0 ∧ ∀ k h2, D k h2 → (∃ fs, h2[84]? = some (.inr (6, fs))) ∧ PW G M_Md_direction (zroom 2 0 0) false (fun r h3 => ∃ t : Int32, r = .inl (some (.int t)) ∧ iE h3 k t.toInt64) 0 (zentry 4 [.ref 84, .int a, .int b, .int c]) [] h2 0 0 := by
  obtain ⟨⟨th, op, tc, dc, jc, bc, pn, ms, ml, mo, mT, mp, pt, po, pa, pw, bs, bf, tr, tk, tb, ty, sd, fc, cc, nu, pb, so, S, hC, hR, hG, hK, hd, ho, hm⟩, fl, hO⟩ := hN
  by_cases hv : ((-9 ≤ a ∧ a ≤ 9) ∧ (-9 ≤ b ∧ b ≤ 9) ∧ (-9 ≤ c ∧ c ≤ 9)) ∧ ¬ (a = 0 ∧ b = 0 ∧ c = 0)
  · by_cases h8 : dc = 8
    · refine pk_T (gt_direction2 (F := fun h2 => h2 = h ++ [.inr (8, [])]) ⟨by decide, by decide, by decide, by decide⟩ hC.1.1 (t_directionS hC hv.1 hv.2 h8) (fun r h' q => ⟨⟨_, q.1, by rw [q.2]; exact zp_eq rfl rfl⟩, q.2⟩)) (fun h2 e => ?_)
      have hR2 := rAll_p hO e hR
      refine ⟨⟨_, hR2.1⟩, pw_mono (fun r h3 q => ?_) (p_direction hR2 hd)⟩
      obtain ⟨t, rfl, hz, q⟩ := q
      refine ⟨t, rfl, ?_⟩
      rcases q with ⟨n, -⟩ | ⟨-, -, q⟩ | ⟨-, n, -⟩
      · exact absurd hv n
      · exact fin_T hC hO e hz q hG hK hd ho hm (by decide)
      · omega
    · refine pk_R (gw_direction ⟨by decide, by decide, by decide, by decide⟩ hC.1.1 hO (r_direction hC hv.1 hv.2 (by omega)) (fun t h' q => zOu_z q.1 hO)) (fun t1 h1 h2 q1 e => ?_)
      obtain ⟨hz1, rfl, hC1⟩ := q1
      have hR2 := rAll_w hz1 e hR
      refine ⟨⟨_, hR2.1⟩, pw_mono (fun r h3 q => ?_) (p_direction hR2 hd)⟩
      obtain ⟨t, rfl, hz, q⟩ := q
      refine ⟨t, rfl, ?_⟩
      rcases q with ⟨n, -⟩ | ⟨-, n, -⟩ | ⟨-, -, rfl, hR3⟩
      · exact absurd hv n
      · omega
      · rw [← zmT_x (v := b) (w := c), ← zmT_y (u := a) (w := c), ← zmT_z (u := a) (v := b)] at hC1
        exact fin_R hC1 (zOu_z hz1 hO) e hz hR3 hG hK (by omega) ho hm rfl
  · refine pk_T (gt_direction1 (F := fun h2 => h2 = h ++ [.inr (7, [])]) ⟨by decide, by decide, by decide, by decide⟩ hC.1.1 (t_directionA hC hv) (fun r h' q => ⟨⟨_, q.1, by rw [q.2]; exact zp_eq rfl rfl⟩, q.2⟩)) (fun h2 e => ?_)
    have hR2 := rAll_p hO e hR
    refine ⟨⟨_, hR2.1⟩, pw_mono (fun r h3 q => ?_) (p_direction hR2 hd)⟩
    obtain ⟨t, rfl, hz, q⟩ := q
    refine ⟨t, rfl, ?_⟩
    rcases q with ⟨-, q⟩ | ⟨n, -⟩ | ⟨n, -⟩
    · exact fin_T hC hO e hz q hG hK hd ho hm (by decide)
    · exact absurd n hv
    · exact absurd n hv
theorem e_pull {G : zG} {h : zH} (hN : iN h) {a b c : Int32} : ∃ D : Int32 → zH → Prop, PW G M_Law_pull (zroom 8 1 6) false (fun r h2 => ∃ k : Int32, r = .inl (some (.int k)) ∧ D k h2) 0 (zentry 5 [.ref 0, .int a, .int b, .int c]) [] h 0 0 ∧ ∀ k h2, D k h2 → (∃ fs, h2[84]? = some (.inr (6, fs))) ∧ PW G M_Md_pull (zroom 2 0 0) false (fun r h3 => r = .inl none ∧ iM h3 k ∧ ∃ fl, zOu h3 fl) 0 (zentry 4 [.ref 84, .int a, .int b, .int c]) [] h2 0 0 := by
  obtain ⟨⟨th, op, tc, dc, jc, bc, pn, ms, ml, mo, mT, mp, pt, po, pa, pw, bs, bf, tr, tk, tb, ty, sd, fc, cc, nu, pb, so, S, hC, hR, hG, hK, hd, ho, hm⟩, fl, hO⟩ := hN
  by_cases hv : ((-9 ≤ a ∧ a ≤ 9) ∧ (-9 ≤ b ∧ b ≤ 9) ∧ (-9 ≤ c ∧ c ≤ 9))
  · refine pk_T (gw_pull ⟨by decide, by decide, by decide, by decide⟩ hC.1.1 (r_pull hC hv)) (fun h2 q => ?_)
    obtain ⟨hz1, hC1⟩ := q
    have hR2 := zkp_r (zkp_z hz1) hR
    refine ⟨⟨_, hR2.1⟩, pw_mono (fun r h3 q => ?_) (p_pull hR2)⟩
    obtain ⟨rfl, hz, q⟩ := q
    refine ⟨rfl, ?_⟩
    rcases q with ⟨n, -⟩ | ⟨-, hR3⟩
    · exact absurd hv n
    · refine ⟨⟨op, tc, dc, jc, bc, pn, ms, ml, mo, mT, _, pt, po, pa, pw, bs, bf, tr, tk, tb, ty, sd, fc, cc, nu, pb, so, S, cAll_m hz hC1, hR3, hG, hK, hd, ho, fun c9 hc => ?_⟩, fl, zOu_m hz (zOu_z hz1 hO)⟩
      have : c9 = 0 ∨ c9 = 1 ∨ c9 = 2 := by omega
      rcases this with rfl | rfl | rfl
      · exact hv.1
      · exact hv.2.1
      · exact hv.2.2
  · refine pk_T (gt_pull1 (F := fun h2 => h2 = h ++ [.inr (7, [])]) ⟨by decide, by decide, by decide, by decide⟩ hC.1.1 (t_pull hC hv) (fun r h' q => ⟨⟨_, q.1, by rw [q.2]; exact zp_eq rfl rfl⟩, q.2⟩)) (fun h2 e => ?_)
    have hR2 := rAll_p hO e hR
    refine ⟨⟨_, hR2.1⟩, pw_mono (fun r h3 q => ?_) (p_pull hR2)⟩
    obtain ⟨rfl, hz, q⟩ := q
    refine ⟨rfl, ?_⟩
    rcases q with ⟨-, q⟩ | ⟨n, -⟩
    · exact ⟨⟨op, tc, dc, jc, bc, pn, ms, ml, mo, mT, mp, pt, po, pa, pw, bs, bf, tr, tk, tb, ty, sd, fc, cc, nu, pb, so, S, cAll_m hz (cAll_p e hC), q, hG, hK, hd, ho, hm⟩, fl, zOu_m hz (zp_ne e hO)⟩
    · exact absurd n hv
theorem e_taken {G : zG} {h : zH} (hN : iN h) {a b : Int32} : ∃ D : Int32 → zH → Prop, PW G M_Law_taken (zroom 8 1 6) false (fun r h2 => ∃ k : Int32, r = .inl (some (.int k)) ∧ D k h2) 0 (zentry 5 [.ref 0, .int a, .int b, .ref 104]) [] h 0 0 ∧ ∀ k h2, D k h2 → (∃ fs, h2[84]? = some (.inr (6, fs))) ∧ PW G M_Md_taken (zroom 1 0 0) false (fun r h3 => ∃ t : Int32, r = .inl (some (.int t)) ∧ iE h3 k t.toInt64) 0 (zentry 3 [.ref 84, .int a, .int b]) [] h2 0 0 := by
  obtain ⟨⟨th, op, tc, dc, jc, bc, pn, ms, ml, mo, mT, mp, pt, po, pa, pw, bs, bf, tr, tk, tb, ty, sd, fc, cc, nu, pb, so, S, hC, hR, hG, hK, hd, ho, hm⟩, fl, hO⟩ := hN
  by_cases hv : (∃ i, i < tc ∧ a = nI i) ∧ 0 ≤ b ∧ b ≤ 1
  · obtain ⟨⟨i, hi, rfl⟩, hb⟩ := hv
    have h01 : b = 0 ∨ b = 1 := by
      rw [le_i, le_i] at hb
      have e1 : (1 : Int32).toInt = 1 := rfl
      have e0 : (0 : Int32).toInt = 0 := rfl
      rw [← Int32.toInt_inj, ← Int32.toInt_inj]
      omega
    refine pk_R (gw_taken ⟨by decide, by decide, by decide, by decide⟩ hC.1.1 hO (r_taken hC hi hK.tc h01) (fun t h' q => zOu_z q.1 hO)) (fun t1 h1 h2 q1 e => ?_)
    obtain ⟨hz1, hv1, hC1⟩ := q1
    have hR2 := rAll_w hz1 e hR
    refine ⟨⟨_, hR2.1⟩, pw_mono (fun r h3 q => ?_) (p_taken hR2 hK.tc)⟩
    obtain ⟨t, rfl, hz, q⟩ := q
    refine ⟨t, rfl, ?_⟩
    rcases q with ⟨n, -⟩ | ⟨i9, hi9, he9, hv9, hR3⟩
    · exact absurd ⟨⟨i, hi, rfl⟩, hb⟩ n
    · have hkt := hK.tc
      have : i = i9 := nI_inj (by omega) (by omega) he9
      subst this
      refine fin_R hC1 (zOu_z hz1 hO) e hz hR3 hG hK hd ho hm ?_
      rcases hv1 with ⟨rfl, rfl⟩ | ⟨rfl, rfl⟩ <;> rcases hv9 with ⟨q, rfl⟩ | ⟨q, rfl⟩
      · rfl
      · exact absurd q (by decide)
      · exact absurd q (by decide)
      · rfl
  · refine pk_T (gt_taken1 (F := fun h2 => h2 = h ++ [.inr (9, [])]) ⟨by decide, by decide, by decide, by decide⟩ hC.1.1 (t_taken hC hK.tc hv) (fun r h' q => ⟨⟨_, q.1, by rw [q.2]; exact zp_eq rfl rfl⟩, q.2⟩)) (fun h2 e => ?_)
    have hR2 := rAll_p hO e hR
    refine ⟨⟨_, hR2.1⟩, pw_mono (fun r h3 q => ?_) (p_taken hR2 hK.tc)⟩
    obtain ⟨t, rfl, hz, q⟩ := q
    refine ⟨t, rfl, ?_⟩
    rcases q with ⟨-, q⟩ | ⟨i9, hi9, rfl, hv9, -⟩
    · exact fin_T hC hO e hz q hG hK hd ho hm (by decide)
    · exact absurd ⟨⟨i9, hi9, rfl⟩, by rcases hv9 with ⟨rfl, -⟩ | ⟨rfl, -⟩ <;> decide⟩ hv
theorem e_told {G : zG} {h : zH} (hN : iN h) {a : Int32} : ∃ D : Int32 → zH → Prop, PW G M_Law_told (zroom 8 1 6) false (fun r h2 => ∃ k : Int32, r = .inl (some (.int k)) ∧ D k h2) 0 (zentry 4 [.ref 0, .int a, .ref 104]) [] h 0 0 ∧ ∀ k h2, D k h2 → (∃ fs, h2[84]? = some (.inr (6, fs))) ∧ PW G M_Md_told (zroom 1 0 0) false (fun r h3 => ∃ t : Int32, r = .inl (some (.int t)) ∧ iE h3 k t.toInt64) 0 (zentry 2 [.ref 84, .int a]) [] h2 0 0 := by
  obtain ⟨⟨th, op, tc, dc, jc, bc, pn, ms, ml, mo, mT, mp, pt, po, pa, pw, bs, bf, tr, tk, tb, ty, sd, fc, cc, nu, pb, so, S, hC, hR, hG, hK, hd, ho, hm⟩, fl, hO⟩ := hN
  by_cases hv : 0 ≤ a ∧ a ≤ 3
  · have h03 : a = 0 ∨ a = 1 ∨ a = 2 ∨ a = 3 := by
      rw [le_i, le_i] at hv
      have e3 : (3 : Int32).toInt = 3 := rfl
      have e2 : (2 : Int32).toInt = 2 := rfl
      have e1 : (1 : Int32).toInt = 1 := rfl
      have e0 : (0 : Int32).toInt = 0 := rfl
      rw [← Int32.toInt_inj, ← Int32.toInt_inj, ← Int32.toInt_inj, ← Int32.toInt_inj]
      omega
    refine pk_R (gw_told ⟨by decide, by decide, by decide, by decide⟩ hC.1.1 hO (r_told hC h03) (fun t h' q => zOu_z q.1 hO)) (fun t1 h1 h2 q1 e => ?_)
    obtain ⟨hz1, hv1, hC1⟩ := q1
    have hR2 := rAll_w hz1 e hR
    refine ⟨⟨_, hR2.1⟩, pw_mono (fun r h3 q => ?_) (p_told hR2)⟩
    obtain ⟨t, rfl, hz, q⟩ := q
    refine ⟨t, rfl, ?_⟩
    obtain ⟨th9, hto, hR3⟩ := q
    rcases hto with ⟨-, n⟩ | ⟨rfl, hv9⟩
    · exact absurd hv n
    · refine fin_R hC1 (zOu_z hz1 hO) e hz hR3 hG hK hd ho hm ?_
      have hpn := iPn hG.zg hG.2.2.2.1
      rcases hv1 with ⟨rfl, rfl⟩ | ⟨rfl, rfl⟩ | ⟨rfl, rfl⟩ | ⟨rfl, rfl⟩ <;> rcases hv9 with ⟨q, rfl⟩ | ⟨q, rfl⟩ | ⟨q, rfl⟩ | ⟨q, rfl⟩
      all_goals first | (exact absurd q (by decide)) | rfl | (rw [hpn])
  · refine pk_T (gt_told1 (F := fun h2 => h2 = h ++ [.inr (9, [])]) ⟨by decide, by decide, by decide, by decide⟩ hC.1.1 (t_told hC hv) (fun r h' q => ⟨⟨_, q.1, by rw [q.2]; exact zp_eq rfl rfl⟩, q.2⟩)) (fun h2 e => ?_)
    have hR2 := rAll_p hO e hR
    refine ⟨⟨_, hR2.1⟩, pw_mono (fun r h3 q => ?_) (p_told hR2)⟩
    obtain ⟨t, rfl, hz, q⟩ := q
    refine ⟨t, rfl, ?_⟩
    obtain ⟨th9, hto, q⟩ := q
    rcases hto with ⟨rfl, -⟩ | ⟨rfl, hv9⟩
    · exact fin_T hC hO e hz q hG hK hd ho hm (by decide)
    · exact absurd (by rcases hv9 with ⟨rfl, -⟩ | ⟨rfl, -⟩ | ⟨rfl, -⟩ | ⟨rfl, -⟩ <;> decide) hv
