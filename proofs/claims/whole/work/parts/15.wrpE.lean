theorem nb {k : Int32} {bc : Nat} (hb : bc ≤ 64) (h : ¬ ∃ K, K < bc ∧ k = nI K) : k < 0 ∨ ¬ k < nI bc := by
  by_cases q : k < 0
  · exact Or.inl q
  · refine Or.inr fun q2 => h ?_
    rw [lt_i] at q q2
    rw [nI_toInt (by omega)] at q2
    obtain ⟨K, e, he⟩ := nI_ex (w := k) (by have e0 : (0 : Int32).toInt = 0 := rfl; omega)
    exact ⟨K, by omega, e⟩
theorem zsz_ex {s : Int32} (h : zsz s) : ∃ N, s = nI N ∧ 1 ≤ N ∧ N ≤ 8 := by
  obtain ⟨h1, h2⟩ := h
  obtain ⟨K, e, he⟩ := nI_ex (w := s) (by omega)
  exact ⟨K, e, by omega, by omega⟩
theorem e_block {G : zG} {h : zH} (hN : iN h) {a b : Int32} : ∃ D : Int32 → zH → Prop, PW G M_Law_block (zroom 8 1 6) false (fun r h2 => ∃ k : Int32, r = .inl (some (.int k)) ∧ D k h2) 0 (zentry 5 [.ref 0, .int a, .int b, .ref 104]) [] h 0 0 ∧ ∀ k h2, D k h2 → (∃ fs, h2[84]? = some (.inr (6, fs))) ∧ PW G M_Md_block (zroom 2 0 0) false (fun r h3 => ∃ t : Int32, r = .inl (some (.int t)) ∧ iE h3 k t.toInt64) 0 (zentry 3 [.ref 84, .int a, .int b]) [] h2 0 0 := by
  obtain ⟨⟨th, op, tc, dc, jc, bc, pn, ms, ml, mo, mT, mp, pt, po, pa, pw, bs, bf, tr, tk, tb, ty, sd, fc, cc, nu, pb, so, S, hC, hR, hG, hK, hd, ho, hm⟩, fl, hO⟩ := hN
  have hle := hG.le
  by_cases hk : ∃ K, K < bc ∧ a = nI K
  · obtain ⟨K, hKb, rfl⟩ := hk
    obtain ⟨s, hs64, hs2, hsB, hsz, hsd, hbs, hbf⟩ := hG.at hKb
    obtain ⟨NX, e0, n1, m1⟩ := zsz_ex (hG.2.1.2.1 0 (by decide))
    obtain ⟨NY, e1, n2, m2⟩ := zsz_ex (hG.2.1.2.1 1 (by decide))
    obtain ⟨NZ, e2, n3, m3⟩ := zsz_ex (hG.2.1.2.1 2 (by decide))
    by_cases hb : 0 ≤ b ∧ b ≤ 4
    · have hC' : cAll h tc dc op tk tb ty jc bc (nI NX) (nI NY) (nI NZ) (zkn jc) sd fc cc nu pb so (mA ml) (mB ml) (mC ml) (mD ml) S (fun i => mT (3 * i)) (fun i => mT (3 * i + 1)) (fun i => mT (3 * i + 2)) (mp 0) (mp 1) (mp 2) := by rw [← e0, ← e1, ← e2]; exact hC
      refine pk_R (gw_block ⟨by decide, by decide, by decide, by decide⟩ hC.1.1 hO (r_block hC' ⟨⟨n1, m1⟩, ⟨n2, m2⟩, ⟨n3, m3⟩⟩ hKb hle hG.1 (z04 hb.1 hb.2)) (fun t h' q => zOu_z q.1 hO)) (fun t1 h1 h2 q1 e => ?_)
      obtain ⟨hz1, hv1, hC1⟩ := q1
      rw [← e0, ← e1, ← e2] at hC1
      have hR2 := rAll_w hz1 e hR
      refine ⟨⟨_, hR2.1⟩, pw_mono (fun r h3 q => ?_) (p_block hR2 hle hG.2.2.2.2.1 hG.1 e0 e1 e2 ⟨⟨n1, m1⟩, ⟨n2, m2⟩, ⟨n3, m3⟩⟩)⟩
      obtain ⟨t, rfl, hz, q⟩ := q
      refine ⟨t, rfl, ?_⟩
      rcases q with ⟨n, -⟩ | ⟨K9, hK9, he9, hv9, hR3⟩
      · exact absurd ⟨⟨K, hKb, rfl⟩, hb⟩ n
      · have : K = K9 := nI_inj (by omega) (by omega) he9
        subst this
        have key : t1 = t := by
          rcases hv1 with ⟨rfl, rfl⟩ | ⟨rfl, rfl⟩ | ⟨rfl, rfl⟩ | ⟨rfl, rfl⟩ | ⟨rfl, rfl⟩ <;> rcases hv9 with ⟨q, rfl⟩ | ⟨q, rfl⟩ | ⟨q, rfl⟩ | ⟨q, rfl⟩ | ⟨q, rfl⟩
          all_goals first | (exact absurd q (by decide)) | skip
          · rw [hsd, hbs]
          · exact hbf.symm
          · rw [hG.cn hKb so, hsd, hbs, (iCn hG.1 hG.2.1 hG.zg hG.nS hG.2.2.2.1 hs64).1]
          · rw [zc3_cg (fun x y z => iIns (ml := ml) (sd := sd) (bs := bs) (k := K) hG.1 (hbs.trans hsd.symm) (x := nI x) (y := nI y) (z := nI z))]
          · rw [hK.2 K hKb]
        exact fin_R hC1 (zOu_z hz1 hO) e hz hR3 hG hK hd ho hm (by rw [key])
    · refine pk_T (gt_block1 (F := fun h2 => h2 = h ++ [.inr (9, [])]) ⟨by decide, by decide, by decide, by decide⟩ hC.1.1 (t_blockW hC hKb hle hb) (fun r h' q => ⟨⟨_, q.1, by rw [q.2]; exact zp_eq rfl rfl⟩, q.2⟩)) (fun h2 e => ?_)
      have hR2 := rAll_p hO e hR
      refine ⟨⟨_, hR2.1⟩, pw_mono (fun r h3 q => ?_) (p_block hR2 hle hG.2.2.2.2.1 hG.1 e0 e1 e2 ⟨⟨n1, m1⟩, ⟨n2, m2⟩, ⟨n3, m3⟩⟩)⟩
      obtain ⟨t, rfl, hz, q⟩ := q
      refine ⟨t, rfl, ?_⟩
      rcases q with ⟨-, q⟩ | ⟨K9, hK9, he9, hv9, -⟩
      · exact fin_T hC hO e hz q hG hK hd ho hm (by decide)
      · exact absurd (by rcases hv9 with ⟨rfl, -⟩ | ⟨rfl, -⟩ | ⟨rfl, -⟩ | ⟨rfl, -⟩ | ⟨rfl, -⟩ <;> decide) hb
  · obtain ⟨NX, e0, n1, m1⟩ := zsz_ex (hG.2.1.2.1 0 (by decide))
    obtain ⟨NY, e1, n2, m2⟩ := zsz_ex (hG.2.1.2.1 1 (by decide))
    obtain ⟨NZ, e2, n3, m3⟩ := zsz_ex (hG.2.1.2.1 2 (by decide))
    refine pk_T (gt_block1 (F := fun h2 => h2 = h ++ [.inr (9, [])]) ⟨by decide, by decide, by decide, by decide⟩ hC.1.1 (t_blockN hC (nb hle hk)) (fun r h' q => ⟨⟨_, q.1, by rw [q.2]; exact zp_eq rfl rfl⟩, q.2⟩)) (fun h2 e => ?_)
    have hR2 := rAll_p hO e hR
    refine ⟨⟨_, hR2.1⟩, pw_mono (fun r h3 q => ?_) (p_block hR2 hle hG.2.2.2.2.1 hG.1 e0 e1 e2 ⟨⟨n1, m1⟩, ⟨n2, m2⟩, ⟨n3, m3⟩⟩)⟩
    obtain ⟨t, rfl, hz, q⟩ := q
    refine ⟨t, rfl, ?_⟩
    rcases q with ⟨-, q⟩ | ⟨K9, hK9, he9, -⟩
    · exact fin_T hC hO e hz q hG hK hd ho hm (by decide)
    · exact absurd ⟨K9, hK9, he9⟩ hk
theorem e_corner {G : zG} {h : zH} (hN : iN h) {a b c : Int32} : ∃ D : Int32 → zH → Prop, PW G M_Law_corner (zroom 8 1 6) false (fun r h2 => ∃ k : Int32, r = .inl (some (.int k)) ∧ D k h2) 0 (zentry 6 [.ref 0, .int a, .int b, .int c, .ref 104]) [] h 0 0 ∧ ∀ k h2, D k h2 → (∃ fs, h2[84]? = some (.inr (6, fs))) ∧ PW G M_Md_corner (zroom 2 0 0) false (fun r h3 => ∃ t : Int32, r = .inl (some (.int t)) ∧ iE h3 k t.toInt64) 0 (zentry 7 [.ref 84, .int a, .int b, .int c]) [] h2 0 0 := by
  obtain ⟨⟨th, op, tc, dc, jc, bc, pn, ms, ml, mo, mT, mp, pt, po, pa, pw, bs, bf, tr, tk, tb, ty, sd, fc, cc, nu, pb, so, S, hC, hR, hG, hK, hd, ho, hm⟩, fl, hO⟩ := hN
  have hle := hG.le
  by_cases hk : ∃ K, K < bc ∧ a = nI K
  · obtain ⟨K, hKb, rfl⟩ := hk
    obtain ⟨s, hs64, hs2, hsB, hsz, hsd, hbs, hbf⟩ := hG.at hKb
    have hcc := hG.cn hKb so
    obtain ⟨hcn, hcv⟩ := iCn (so := so) hG.1 hG.2.1 hG.zg hG.nS hG.2.2.2.1 hs64
    rw [← hsd] at hcn hcv
    have hcn' : (iCp (sd K ||| 1344) S so).1 = zct (fun p => ztp (bs K) pa pw p) pn := by rw [hcn, hbs, hsd]
    by_cases hi : ∃ I9, I9 < (iCp (sd K ||| 1344) S so).1 ∧ b = nI I9
    · obtain ⟨i, hi1, rfl⟩ := hi
      by_cases hw : 0 ≤ c ∧ c ≤ 3
      · refine pk_R (gw_corner ⟨by decide, by decide, by decide, by decide⟩ hC.1.1 hO (r_corner hC hKb hle hG.nS hcc hi1 (z03 hw.1 hw.2)) (fun t h' q => zOu_z q.1 hO)) (fun t1 h1 h2 q1 e => ?_)
        obtain ⟨hz1, ⟨p9, hp9, hp9e, hv1⟩, hC1⟩ := q1
        have hR2 := rAll_w hz1 e hR
        refine ⟨⟨_, hR2.1⟩, pw_mono (fun r h3 q => ?_) (p_corner hR2 hle hG.2.2.2.2.1)⟩
        obtain ⟨t, rfl, hz, q⟩ := q
        refine ⟨t, rfl, ?_⟩
        rcases q with ⟨n, -⟩ | ⟨K9, I9, W, hK9, he9, hI9, hI9l, hW, hcW, p, hp, hpt, hpc, rfl, hR3⟩
        · exact absurd ⟨⟨K, i, hKb, rfl, rfl, by rw [← hcn']; exact hi1⟩, hw⟩ n
        · have : K = K9 := nI_inj (by omega) (by omega) he9
          subst this
          have hle2 := zct_le (fun p => ztp (bs K) pa pw p) pn
          have hpn := hG.2.2.2.2.1
          have hi2 : i < 2147483648 := by omega
          have : i = I9 := nI_inj hi2 (by omega) hI9
          subst this
          rw [hbs, ← hsd] at hpt hpc
          obtain ⟨v0, v1, v2, v3⟩ := hcv i p9 p hi1 hp9e hp9 hp hpt hpc
          refine fin_R hC1 (zOu_z hz1 hO) e hz hR3 hG hK hd ho hm ?_
          have hW4 : W = 0 ∨ W = 1 ∨ W = 2 ∨ W = 3 := by omega
          rcases hW4 with rfl | rfl | rfl | rfl <;> rcases hv1 with ⟨q, rfl⟩ | ⟨q, rfl⟩ | ⟨q, rfl⟩ | ⟨q, rfl⟩
          all_goals first | (exact absurd (q.symm.trans hcW) (by decide)) | skip
          · exact congrArg Int32.toInt64 v0
          · exact congrArg Int32.toInt64 v1
          · exact congrArg Int32.toInt64 v2
          · exact congrArg Int32.toInt64 v3
      · refine pk_T (gt_corner1 (F := fun h2 => ∃ h1, zsm zKP h h1 ∧ iC h1 op tc dc jc bc ms ml mT mp tk tb ty sd fc cc nu pb (iCp (sd K ||| 1344) S so).2 S ∧ h2 = h1 ++ [.inr (9, [])]) ⟨by decide, by decide, by decide, by decide⟩ hC.1.1 (t_cornerW hC hKb hle hG.nS hcc hi1 hw) (fun r h' q => ?_)) (fun h2 e => ?_)
        · obtain ⟨h1, q1, q2, q3, q4⟩ := q
          exact ⟨⟨_, q3, by rw [q4]; exact zp_eq rfl rfl⟩, h1, q1, q2, q4⟩
        · obtain ⟨h1, hz1, hC1, e⟩ := e
          have hR2 := rAll_p (zOu_z hz1 hO) e (zkp_r (zkp_z hz1) hR)
          refine ⟨⟨_, hR2.1⟩, pw_mono (fun r h3 q => ?_) (p_corner hR2 hle hG.2.2.2.2.1)⟩
          obtain ⟨t, rfl, hz, q⟩ := q
          refine ⟨t, rfl, ?_⟩
          rcases q with ⟨-, q⟩ | ⟨K9, I9, W, hK9, he9, hI9, hI9l, hW, hcW, -⟩
          · exact fin_T hC1 (zOu_z hz1 hO) e hz q hG hK hd ho hm (by decide)
          · refine absurd ?_ hw
            rw [hcW]
            exact ⟨(nI_leI (a := 0) (b := W) (by decide) (by omega)).mpr (by omega), (nI_leI (a := W) (b := 3) (by omega) (by decide)).mpr (by omega)⟩
    · refine pk_T (gt_corner1 (F := fun h2 => h2 = h ++ [.inr (9, [])]) ⟨by decide, by decide, by decide, by decide⟩ hC.1.1 (t_cornerI hC hKb hle hG.nS hcc hi) (fun r h' q => ⟨⟨_, q.1, by rw [q.2]; exact zp_eq rfl rfl⟩, q.2⟩)) (fun h2 e => ?_)
      have hR2 := rAll_p hO e hR
      refine ⟨⟨_, hR2.1⟩, pw_mono (fun r h3 q => ?_) (p_corner hR2 hle hG.2.2.2.2.1)⟩
      obtain ⟨t, rfl, hz, q⟩ := q
      refine ⟨t, rfl, ?_⟩
      rcases q with ⟨-, q⟩ | ⟨K9, I9, W, hK9, he9, hI9, hI9l, -⟩
      · exact fin_T hC hO e hz q hG hK hd ho hm (by decide)
      · have : K = K9 := nI_inj (by omega) (by omega) he9
        subst this
        exact absurd ⟨I9, by rw [hcn']; exact hI9l, hI9⟩ hi
  · refine pk_T (gt_corner1 (F := fun h2 => h2 = h ++ [.inr (9, [])]) ⟨by decide, by decide, by decide, by decide⟩ hC.1.1 (t_cornerN hC (nb hle hk)) (fun r h' q => ⟨⟨_, q.1, by rw [q.2]; exact zp_eq rfl rfl⟩, q.2⟩)) (fun h2 e => ?_)
    have hR2 := rAll_p hO e hR
    refine ⟨⟨_, hR2.1⟩, pw_mono (fun r h3 q => ?_) (p_corner hR2 hle hG.2.2.2.2.1)⟩
    obtain ⟨t, rfl, hz, q⟩ := q
    refine ⟨t, rfl, ?_⟩
    rcases q with ⟨-, q⟩ | ⟨K9, I9, W, hK9, he9, -⟩
    · exact fin_T hC hO e hz q hG hK hd ho hm (by decide)
    · exact absurd ⟨K9, hK9, he9⟩ hk
theorem e_beside {G : zG} {h : zH} (hN : iN h) {a b : Int32} : ∃ D : Int32 → zH → Prop, PW G M_Law_beside (zroom 8 1 6) false (fun r h2 => ∃ k : Int32, r = .inl (some (.int k)) ∧ D k h2) 0 (zentry 5 [.ref 0, .int a, .int b, .ref 104]) [] h 0 0 ∧ ∀ k h2, D k h2 → (∃ fs, h2[84]? = some (.inr (6, fs))) ∧ PW G M_Md_beside (zroom 2 0 0) false (fun r h3 => ∃ t : Int32, r = .inl (some (.int t)) ∧ iE h3 k t.toInt64) 0 (zentry 3 [.ref 84, .int a, .int b]) [] h2 0 0 := by
  obtain ⟨⟨th, op, tc, dc, jc, bc, pn, ms, ml, mo, mT, mp, pt, po, pa, pw, bs, bf, tr, tk, tb, ty, sd, fc, cc, nu, pb, so, S, hC, hR, hG, hK, hd, ho, hm⟩, fl, hO⟩ := hN
  have hle := hG.le
  by_cases hk : ∃ K, K < bc ∧ a = nI K
  · obtain ⟨K, hKb, rfl⟩ := hk
    obtain ⟨s, hs64, hs2, hsB, hsz, hsd, hbs, hbf⟩ := hG.at hKb
    have hj6 := hG.1
    by_cases hj : ∃ J, J < jc ∧ b = nI J
    · obtain ⟨j, hj1, rfl⟩ := hj
      refine pk_R (gw_beside ⟨by decide, by decide, by decide, by decide⟩ hC.1.1 hO (r_beside hC hKb hle hj1 hG.1 hs64 hsd) (fun t h' q => zOu_z q.1 hO)) (fun t1 h1 h2 q1 e => ?_)
      obtain ⟨hz1, hv1, hC1⟩ := q1
      have hR2 := rAll_w hz1 e hR
      refine ⟨⟨_, hR2.1⟩, pw_mono (fun r h3 q => ?_) (p_beside hR2 hle hG.1)⟩
      obtain ⟨t, rfl, hz, q⟩ := q
      refine ⟨t, rfl, ?_⟩
      rcases q with ⟨n, -⟩ | ⟨K9, J9, hK9, he9, hJ9, hje, hv9, hR3⟩
      · exact absurd ⟨⟨K, hKb, rfl⟩, j, hj1, rfl⟩ n
      · have : K = K9 := nI_inj (by omega) (by omega) he9
        subst this
        have : j = J9 := nI_inj (by omega) (by omega) hje
        subst this
        have key : t1 = t := by
          rw [hbf, hbs] at hv9
          rcases hv1 with ⟨q1, rfl⟩ | ⟨q1, rfl⟩ <;> rcases hv9 with ⟨q2, q3⟩ | ⟨q2, rfl⟩
          · obtain ⟨g1, g2⟩ := nI_flip s hs64 j (by omega)
            rw [g1] at q3
            exact (iFi hG.1 hG.2.2.2.2.2.2.1 hG.2.2.2.2.2.2.2.1 g2 q3).symm
          · exact absurd q1 q2
          · exact absurd q2 q1
          · rfl
        exact fin_R hC1 (zOu_z hz1 hO) e hz hR3 hG hK hd ho hm (by rw [key])
    · refine pk_T (gt_beside1 (F := fun h2 => h2 = h ++ [.inr (9, [])]) ⟨by decide, by decide, by decide, by decide⟩ hC.1.1 (t_besideJ hC hKb hle hG.1 hj) (fun r h' q => ⟨⟨_, q.1, by rw [q.2]; exact zp_eq rfl rfl⟩, q.2⟩)) (fun h2 e => ?_)
      have hR2 := rAll_p hO e hR
      refine ⟨⟨_, hR2.1⟩, pw_mono (fun r h3 q => ?_) (p_beside hR2 hle hG.1)⟩
      obtain ⟨t, rfl, hz, q⟩ := q
      refine ⟨t, rfl, ?_⟩
      rcases q with ⟨-, q⟩ | ⟨K9, J9, hK9, he9, hJ9, hje, -⟩
      · exact fin_T hC hO e hz q hG hK hd ho hm (by decide)
      · exact absurd ⟨J9, hJ9, hje⟩ hj
  · refine pk_T (gt_beside1 (F := fun h2 => h2 = h ++ [.inr (9, [])]) ⟨by decide, by decide, by decide, by decide⟩ hC.1.1 (t_besideN hC (nb hle hk)) (fun r h' q => ⟨⟨_, q.1, by rw [q.2]; exact zp_eq rfl rfl⟩, q.2⟩)) (fun h2 e => ?_)
    have hR2 := rAll_p hO e hR
    refine ⟨⟨_, hR2.1⟩, pw_mono (fun r h3 q => ?_) (p_beside hR2 hle hG.1)⟩
    obtain ⟨t, rfl, hz, q⟩ := q
    refine ⟨t, rfl, ?_⟩
    rcases q with ⟨-, q⟩ | ⟨K9, J9, hK9, he9, -⟩
    · exact fin_T hC hO e hz q hG hK hd ho hm (by decide)
    · exact absurd ⟨K9, hK9, he9⟩ hk
