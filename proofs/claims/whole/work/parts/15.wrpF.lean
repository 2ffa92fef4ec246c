theorem e_goes {G : zG} {h : zH} (hN : iN h) {a b : Int32} : ∃ D : Int32 → zH → Prop, PW G M_Law_goes (zroom 8 1 6) false (fun r h2 => ∃ k : Int32, r = .inl (some (.int k)) ∧ D k h2) 0 (zentry 5 [.ref 0, .int a, .int b, .ref 104]) [] h 0 0 ∧ ∀ k h2, D k h2 → (∃ fs, h2[84]? = some (.inr (6, fs))) ∧ PW G M_Md_goes (zroom 4 0 0) false (fun r h3 => ∃ t : Int32, r = .inl (some (.int t)) ∧ iE h3 k (if t = 0 then 0 else 1)) 0 (zentry 3 [.ref 84, .int a, .int b]) [] h2 0 0 := by
  obtain ⟨⟨th, op, tc, dc, jc, bc, pn, ms, ml, mo, mT, mp, pt, po, pa, pw, bs, bf, tr, tk, tb, ty, sd, fc, cc, nu, pb, so, S, hC, hR, hG, hK, hd, ho, hm⟩, fl, hO⟩ := hN
  have hle := hG.le
  by_cases hk : ∃ K, K < bc ∧ a = nI K
  · obtain ⟨K, hKb, rfl⟩ := hk
    obtain ⟨s, hs64, hs2, hsB, hsz, hsd, hbs, hbf⟩ := hG.at hKb
    by_cases hj : ∃ J, J < dc ∧ b = nI J
    · obtain ⟨j, hj1, rfl⟩ := hj
      refine pk_R (gw_goes ⟨by decide, by decide, by decide, by decide⟩ hC.1.1 hO (r_goes hC hKb hle hG.nn hK.1.1 hs64 hsd hj1 hd) (fun t h' q => zOu_z q.1 hO)) (fun t1 h1 h2 q1 e => ?_)
      obtain ⟨hz1, hv1, hC1⟩ := q1
      have hR2 := rAll_w hz1 e hR
      refine ⟨⟨_, hR2.1⟩, pw_mono (fun r h3 q => ?_) (p_goes hR2 hd hle hG.fx)⟩
      obtain ⟨t, rfl, hz, q⟩ := q
      refine ⟨t, rfl, ?_⟩
      rcases q with ⟨n, -⟩ | ⟨K9, J9, hK9, he9, hJ9, hje, hv9, hR3⟩
      · exact absurd ⟨⟨K, hKb, rfl⟩, j, hj1, rfl⟩ n
      · have : K = K9 := nI_inj (by omega) (by omega) he9
        subst this
        have : j = J9 := nI_inj (by omega) (by omega) hje
        subst this
        have hgo := iGo (a := mT (3 * j)) (b := mT (3 * j + 1)) (c := mT (3 * j + 2)) hG.1 hG.2.1 hG.zg hG.2.2.2.2.2.1 hG.2.2.2.2.2.2.1 hG.2.2.2.2.2.2.2.1 ho hK.1.1 hK.2 hKb hs64 hsd
        rw [← hgo, hK.2 K hKb] at hv9
        have key : t1 = t := by
          rcases hv1 with ⟨rfl, q1⟩ | ⟨rfl, q1⟩ <;> rcases hv9 with ⟨rfl, q2⟩ | ⟨rfl, q2⟩
          · rfl
          · exact absurd q1 q2
          · exact absurd q2 q1
          · rfl
        exact fin_R hC1 (zOu_z hz1 hO) e hz hR3 hG hK hd ho hm (by rw [key])
    · refine pk_T (gt_goes1 (F := fun h2 => h2 = h ++ [.inr (9, [])]) ⟨by decide, by decide, by decide, by decide⟩ hC.1.1 (t_goesD hC hKb hle hd hj) (fun r h' q => ⟨⟨_, q.1, by rw [q.2]; exact zp_eq rfl rfl⟩, q.2⟩)) (fun h2 e => ?_)
      have hR2 := rAll_p hO e hR
      refine ⟨⟨_, hR2.1⟩, pw_mono (fun r h3 q => ?_) (p_goes hR2 hd hle hG.fx)⟩
      obtain ⟨t, rfl, hz, q⟩ := q
      refine ⟨t, rfl, ?_⟩
      rcases q with ⟨-, q⟩ | ⟨K9, J9, hK9, he9, hJ9, hje, -⟩
      · exact fin_T hC hO e hz q hG hK hd ho hm (by decide)
      · exact absurd ⟨J9, hJ9, hje⟩ hj
  · refine pk_T (gt_goes1 (F := fun h2 => h2 = h ++ [.inr (9, [])]) ⟨by decide, by decide, by decide, by decide⟩ hC.1.1 (t_goesN hC (nb hle hk)) (fun r h' q => ⟨⟨_, q.1, by rw [q.2]; exact zp_eq rfl rfl⟩, q.2⟩)) (fun h2 e => ?_)
    have hR2 := rAll_p hO e hR
    refine ⟨⟨_, hR2.1⟩, pw_mono (fun r h3 q => ?_) (p_goes hR2 hd hle hG.fx)⟩
    obtain ⟨t, rfl, hz, q⟩ := q
    refine ⟨t, rfl, ?_⟩
    rcases q with ⟨-, q⟩ | ⟨K9, J9, hK9, he9, -⟩
    · exact fin_T hC hO e hz q hG hK hd ho hm (by decide)
    · exact absurd ⟨K9, hK9, he9⟩ hk
theorem iK_s {bc tc K : Nat} {tk tr tb ty : Nat → Int32} {t : Int32} (hb : bc ≤ 64) (hKb : K < bc) (h0 : tk K = 0) (h : iK bc tc tk tr tb ty) : iK bc (tc + 1) (upd tk K 1) (upd tr K 1) (upd tb tc (nI K)) (upd ty tc t) := by
  refine ⟨zTo_s (T := (tc, tk, tb, ty)) hb hKb h0 h.1, fun k hk => ?_⟩
  by_cases e : k = K
  · subst e; rw [pk_us, pk_us]
  · rw [pk_un e, pk_un e]; exact h.2 k hk
theorem e_take {G : zG} {h : zH} (hN : iN h) {a : Int32} : ∃ D : Int32 → zH → Prop, PW G M_Law_take (zroom 8 1 6) false (fun r h2 => ∃ k : Int32, r = .inl (some (.int k)) ∧ D k h2) 0 (zentry 4 [.ref 0, .int a, .ref 104]) [] h 0 0 ∧ ∀ k h2, D k h2 → (∃ fs, h2[84]? = some (.inr (6, fs))) ∧ PW G M_Md_take (zroom 5 0 0) false (fun r h3 => ∃ t : Int32, r = .inl (some (.int t)) ∧ iE h3 k t.toInt64) 0 (zentry 2 [.ref 84, .int a]) [] h2 0 0 := by
  obtain ⟨⟨th, op, tc, dc, jc, bc, pn, ms, ml, mo, mT, mp, pt, po, pa, pw, bs, bf, tr, tk, tb, ty, sd, fc, cc, nu, pb, so, S, hC, hR, hG, hK, hd, ho, hm⟩, fl, hO⟩ := hN
  have hle := hG.le
  by_cases hk : ∃ K, K < bc ∧ a = nI K
  · obtain ⟨K, hKb, rfl⟩ := hk
    obtain ⟨s, hs64, hs2, hsB, hsz, hsd, hbs, hbf⟩ := hG.at hKb
    refine pk_R (gw_take ⟨by decide, by decide, by decide, by decide⟩ hC.1.1 hO (r_take hC hKb hle hG.nn hK.1.1 hs64 hsd hd (fun e0 => zTo_lt (T := (tc, tk, tb, ty)) hKb e0 hK.1)) (fun t h' q => zOu_z q.1 hO)) (fun t1 h1 h2 q1 e => ?_)
    obtain ⟨hz1, hv1⟩ := q1
    have hR2 := rAll_w hz1 e hR
    refine ⟨⟨_, hR2.1⟩, pw_mono (fun r h3 q => ?_) (p_take hR2 hd hle hG.fx hK.tq)⟩
    obtain ⟨t, rfl, hz, q⟩ := q
    refine ⟨t, rfl, ?_⟩
    have hun : ∀ {t9 : Int32}, zLd op tk sd fc nu (mA ml) (mB ml) (mC ml) (fun i => mT (3 * i)) (fun i => mT (3 * i + 1)) (fun i => mT (3 * i + 2)) dc K s t9 → rLd ml mo tr bs bf mT bc dc K t → t9 = t := fun q1 q2 => rLd_un hd (iLd hG.1 hG.2.1 hG.zg hG.2.2.2.2.2.1 hG.2.2.2.2.2.2.1 hG.2.2.2.2.2.2.2.1 ho hK.1.1 hK.2 hKb hs64 hsd q1) q2
    rcases q with ⟨n, -⟩ | ⟨K9, hK9, he9, q1, q2, hR3⟩ | ⟨K9, hK9, he9, q1, q2, hR3⟩
    · exact absurd ⟨K, hKb, rfl⟩ n
    · have : K = K9 := nI_inj (by omega) (by omega) he9
      subst this
      rcases hv1 with ⟨l1, l2, hC1⟩ | ⟨l1, l2, -⟩
      · exact fin_R hC1 (zOu_z hz1 hO) e hz hR3 hG hK hd ho hm (by rw [hun l1 q1])
      · exact absurd ((hun l1 q1).trans q2) l2
    · have : K = K9 := nI_inj (by omega) (by omega) he9
      subst this
      rcases hv1 with ⟨l1, l2, -⟩ | ⟨l1, l2, l3, hC1⟩
      · exact absurd ((hun l1 q1).symm.trans l2) q2
      · have e9 := hun l1 q1
        subst e9
        exact fin_R hC1 (zOu_z hz1 hO) e hz hR3 hG (iK_s hle hKb l3 hK) hd ho hm rfl
  · refine pk_T (gt_take1 (F := fun h2 => h2 = h ++ [.inr (9, [])]) ⟨by decide, by decide, by decide, by decide⟩ hC.1.1 (t_takeN hC (nb hle hk)) (fun r h' q => ⟨⟨_, q.1, by rw [q.2]; exact zp_eq rfl rfl⟩, q.2⟩)) (fun h2 e => ?_)
    have hR2 := rAll_p hO e hR
    refine ⟨⟨_, hR2.1⟩, pw_mono (fun r h3 q => ?_) (p_take hR2 hd hle hG.fx hK.tq)⟩
    obtain ⟨t, rfl, hz, q⟩ := q
    refine ⟨t, rfl, ?_⟩
    rcases q with ⟨-, q⟩ | ⟨K9, hK9, he9, -⟩ | ⟨K9, hK9, he9, -⟩
    · exact fin_T hC hO e hz q hG hK hd ho hm (by decide)
    · exact absurd ⟨K9, hK9, he9⟩ hk
    · exact absurd ⟨K9, hK9, he9⟩ hk
theorem e_mode {G : zG} {h : zH} (hN : iN h) {a : Int32} : ∃ D : Int32 → zH → Prop, PW G M_Law_mode (zroom 8 1 6) false (fun r h2 => ∃ k : Int32, r = .inl (some (.int k)) ∧ D k h2) 0 (zentry 4 [.ref 0, .int a, .ref 104]) [] h 0 0 ∧ ∀ k h2, D k h2 → (∃ fs, h2[84]? = some (.inr (6, fs))) ∧ PW G M_Md_mode (zroom 4 0 0) false (fun r h3 => ∃ t : Int32, r = .inl (some (.int t)) ∧ iE h3 k t.toInt64) 0 (zentry 4 [.ref 84, .int a]) [] h2 0 0 := by
  obtain ⟨⟨th, op, tc, dc, jc, bc, pn, ms, ml, mo, mT, mp, pt, po, pa, pw, bs, bf, tr, tk, tb, ty, sd, fc, cc, nu, pb, so, S, hC, hR, hG, hK, hd, ho, hm⟩, fl, hO⟩ := hN
  have hle := hG.le
  by_cases hk : ∃ K, K < bc ∧ a = nI K
  · obtain ⟨K, hKb, rfl⟩ := hk
    obtain ⟨s, hs64, hs2, hsB, hsz, hsd, hbs, hbf⟩ := hG.at hKb
    refine pk_R (gw_mode ⟨by decide, by decide, by decide, by decide⟩ hC.1.1 hO (r_mode hC hKb hle hG.nn hK.1.1 hs64 hsd) (fun t h' q => zOu_z q.1 hO)) (fun t1 h1 h2 q1 e => ?_)
    obtain ⟨hz1, hv1, hC1⟩ := q1
    have hR2 := rAll_w hz1 e hR
    refine ⟨⟨_, hR2.1⟩, pw_mono (fun r h3 q => ?_) (p_mode hR2 hle hG.fx (hK.tr hle))⟩
    obtain ⟨t, rfl, hz, q⟩ := q
    refine ⟨t, rfl, ?_⟩
    rcases q with ⟨n, -⟩ | ⟨K9, hK9, he9, q1, rfl, hR3⟩ | ⟨K9, hK9, he9, q1, q2, hR3⟩
    · exact absurd ⟨K, hKb, rfl⟩ n
    · have : K = K9 := nI_inj (by omega) (by omega) he9
      subst this
      rcases hv1 with ⟨-, rfl⟩ | ⟨l1, -⟩
      · exact fin_R hC1 (zOu_z hz1 hO) e hz hR3 hG hK hd ho hm rfl
      · rw [hK.2 K hKb, l1] at q1; exact absurd q1 (by decide)
    · have : K = K9 := nI_inj (by omega) (by omega) he9
      subst this
      rcases hv1 with ⟨l1, -⟩ | ⟨l1, l2⟩
      · rw [hK.2 K hKb, l1] at q1; exact absurd q1 (by decide)
      · have key := rMd_un (iMd hG.1 hG.2.1 hG.zg hG.2.2.2.2.2.1 hG.2.2.2.2.2.2.1 hG.2.2.2.2.2.2.2.1 ho hm hK.1.1 hK.2 hKb hs64 hsd l1 l2) q2
        exact fin_R hC1 (zOu_z hz1 hO) e hz hR3 hG hK hd ho hm (by rw [key])
  · refine pk_T (gt_mode1 (F := fun h2 => h2 = h ++ [.inr (9, [])]) ⟨by decide, by decide, by decide, by decide⟩ hC.1.1 (t_modeN hC (nb hle hk)) (fun r h' q => ⟨⟨_, q.1, by rw [q.2]; exact zp_eq rfl rfl⟩, q.2⟩)) (fun h2 e => ?_)
    have hR2 := rAll_p hO e hR
    refine ⟨⟨_, hR2.1⟩, pw_mono (fun r h3 q => ?_) (p_mode hR2 hle hG.fx (hK.tr hle))⟩
    obtain ⟨t, rfl, hz, q⟩ := q
    refine ⟨t, rfl, ?_⟩
    rcases q with ⟨-, q⟩ | ⟨K9, hK9, he9, -⟩ | ⟨K9, hK9, he9, -⟩
    · exact fin_T hC hO e hz q hG hK hd ho hm (by decide)
    · exact absurd ⟨K9, hK9, he9⟩ hk
    · exact absurd ⟨K9, hK9, he9⟩ hk
/-- a room within the law's -/
def zRlt (R : Room) : Prop := R.frames ≤ 7 ∧ R.locals ≤ 224 ∧ R.cells = 0 ∧ R.slots = 0
section FINP
variable {op : Int32} {tc dc jc bc pn : Nat} {ms ml mo mT mp pt po pa pw bs bf tr tk tb ty sd fc cc nu pb so : Nat → Int32} {S : zPS}
theorem fin_P {h1 h3 : zH} {fl : Nat → Int64} {th : Int32} (hC : iC h1 op tc dc jc bc ms ml mT mp tk tb ty sd fc cc nu pb so S) (hO : zOu h1 fl) (hz : zsm zMP h1 h3) (hR : rAll h3 th jc dc pn bc tc ms ml mo mT mp pt po pa pw bs bf tr tb ty) (hG : iG jc bc pn ms ml pb pt po pa pw sd fc cc nu bs bf S) (hK : iK bc tc tk tr tb ty) (hd : dc ≤ 8) (ho : iOp op mo) (hm : iMp mp) : iN h3 :=
  ⟨⟨th, op, tc, dc, jc, bc, pn, ms, ml, mo, mT, mp, pt, po, pa, pw, bs, bf, tr, tk, tb, ty, sd, fc, cc, nu, pb, so, S, cAll_m hz hC, hR, hG, hK, hd, ho, hm⟩, fl, zOu_m hz hO⟩
end FINP
theorem e_blocks {G : zG} {h : zH} (hN : iN h) : ∃ (R1 : Room) (P1 : Bool) (D : Int32 → zH → Prop), zRlt R1 ∧ PW G M_WP_blocks R1 P1 (fun r h2 => ∃ t : Int32, r = .inl (some (.int t)) ∧ D t h2) 0 (zentry 1 [.ref 0]) [] h 0 0 ∧ ∀ t h2, D t h2 → (∃ fs, h2[84]? = some (.inr (6, fs))) ∧ ∃ R2 : Room, zRlt R2 ∧ PW G M_Md_blocks R2 false (fun r h3 => ∃ t9 : Int32, r = .inl (some (.int t9)) ∧ t9 = t ∧ iN h3) 0 (zentry 1 [.ref 84]) [] h2 0 0 := by
  obtain ⟨⟨th, op, tc, dc, jc, bc, pn, ms, ml, mo, mT, mp, pt, po, pa, pw, bs, bf, tr, tk, tb, ty, sd, fc, cc, nu, pb, so, S, hC, hR, hG, hK, hd, ho, hm⟩, fl, hO⟩ := hN
  refine ⟨_, _, _, ⟨by decide, by decide, rfl, rfl⟩, r_blocks hC, fun t1 h2 q1 => ?_⟩
  obtain ⟨hz1, rfl, hC1⟩ := q1
  have hR2 := zkp_r (zkp_z hz1) hR
  refine ⟨⟨_, hR2.1⟩, _, ⟨by decide, by decide, rfl, rfl⟩, pw_mono (fun r h3 q => ?_) (p_blocks hR2)⟩
  obtain ⟨t, rfl, hz, q⟩ := q
  refine ⟨t, rfl, ?_⟩
  exact ⟨q.1, fin_P hC1 (zOu_z hz1 hO) hz q.2 hG hK hd ho hm⟩
theorem e_back {G : zG} {h : zH} (hN : iN h) : ∃ (R1 : Room) (P1 : Bool) (D : Int32 → zH → Prop), zRlt R1 ∧ PW G M_WP_back R1 P1 (fun r h2 => ∃ t : Int32, r = .inl (some (.int t)) ∧ D t h2) 0 (zentry 2 [.ref 0]) [] h 0 0 ∧ ∀ t h2, D t h2 → (∃ fs, h2[84]? = some (.inr (6, fs))) ∧ ∃ R2 : Room, zRlt R2 ∧ PW G M_Md_back R2 false (fun r h3 => ∃ t9 : Int32, r = .inl (some (.int t9)) ∧ t9 = t ∧ iN h3) 0 (zentry 3 [.ref 84]) [] h2 0 0 := by
  obtain ⟨⟨th, op, tc, dc, jc, bc, pn, ms, ml, mo, mT, mp, pt, po, pa, pw, bs, bf, tr, tk, tb, ty, sd, fc, cc, nu, pb, so, S, hC, hR, hG, hK, hd, ho, hm⟩, fl, hO⟩ := hN
  refine ⟨_, _, _, ⟨by decide, by decide, rfl, rfl⟩, r_back hC, fun t1 h2 q1 => ?_⟩
  obtain ⟨hz1, rfl, hC1⟩ := q1
  have hR2 := zkp_r (zkp_z hz1) hR
  refine ⟨⟨_, hR2.1⟩, _, ⟨by decide, by decide, rfl, rfl⟩, pw_mono (fun r h3 q => ?_) (p_back hR2 hG.le)⟩
  obtain ⟨t, rfl, hz, q⟩ := q
  refine ⟨t, rfl, ?_⟩
  exact ⟨q.1, fin_P hC1 (zOu_z hz1 hO) hz q.2 hG (iK0 hG.le (fun k hk => if_pos hk)) hd ho hm⟩
theorem e_find {G : zG} {h : zH} (hN : iN h) {a : Int32} : ∃ (R1 : Room) (P1 : Bool) (D : Int32 → zH → Prop), zRlt R1 ∧ PW G M_WP_find R1 P1 (fun r h2 => ∃ t : Int32, r = .inl (some (.int t)) ∧ D t h2) 0 (zentry 2 [.ref 0, .int a]) [] h 0 0 ∧ ∀ t h2, D t h2 → (∃ fs, h2[84]? = some (.inr (6, fs))) ∧ ∃ R2 : Room, zRlt R2 ∧ PW G M_Md_find R2 false (fun r h3 => ∃ t9 : Int32, r = .inl (some (.int t9)) ∧ t9 = t ∧ iN h3) 0 (zentry 3 [.ref 84, .int a]) [] h2 0 0 := by
  obtain ⟨⟨th, op, tc, dc, jc, bc, pn, ms, ml, mo, mT, mp, pt, po, pa, pw, bs, bf, tr, tk, tb, ty, sd, fc, cc, nu, pb, so, S, hC, hR, hG, hK, hd, ho, hm⟩, fl, hO⟩ := hN
  refine ⟨_, _, _, ⟨by decide, by decide, rfl, rfl⟩, r_find hC, fun t1 h2 q1 => ?_⟩
  obtain ⟨hz1, hv1, hC1⟩ := q1
  have hR2 := zkp_r (zkp_z hz1) hR
  refine ⟨⟨_, hR2.1⟩, _, ⟨by decide, by decide, rfl, rfl⟩, pw_mono (fun r h3 q => ?_) (p_find hR2 hG.le)⟩
  obtain ⟨t, rfl, hz, q⟩ := q
  refine ⟨t, rfl, ?_⟩
  refine ⟨?_, fin_P hC1 (zOu_z hz1 hO) hz q.2 hG hK hd ho hm⟩
  rcases hv1 with ⟨m, hm64, rfl, rfl⟩ | ⟨hno, rfl⟩
  · exact iFi hG.1 hG.2.2.2.2.2.2.1 hG.2.2.2.2.2.2.2.1 hm64 q.1
  · exact iFi_no hG.1 hG.2.2.2.2.2.2.1 (fun ⟨m, m1, m2⟩ => hno m m1 m2) q.1
theorem zStn_to {op : Int32} {sd fc nu A B C dx dy dz : Nat → Int32} {dc bc : Nat} {sf : Nat → Nat} (hbc : bc ≤ 64) : ∀ (n : Nat) {T U : zTS}, zStn op sd fc nu A B C dx dy dz dc bc sf n T U → zTo bc T → U.1 + zct (fun j => U.2.1 j = 0) bc ≤ 64 := by
  have key : ∀ (n : Nat) {T U : zTS}, zStn op sd fc nu A B C dx dy dz dc bc sf n T U → zTo bc T → zTo bc U := by
    intro n
    induction n with
    | zero => intro T U h ho; cases h; exact ho
    | succ n ih =>
      rintro T U ⟨X, h1, h2⟩ ho
      exact (zSt1_to hbc h2 (ih h1 ho)).1
  exact fun n T U h ho => (key n h ho).2
theorem e_order {G : zG} {h : zH} (hN : iN h) : ∃ (R1 : Room) (P1 : Bool) (D : Int32 → zH → Prop), zRlt R1 ∧ PW G M_WP_order R1 P1 (fun r h2 => ∃ t : Int32, r = .inl (some (.int t)) ∧ D t h2) 0 (zentry 2 [.ref 0]) [] h 0 0 ∧ ∀ t h2, D t h2 → (∃ fs, h2[84]? = some (.inr (6, fs))) ∧ ∃ R2 : Room, zRlt R2 ∧ PW G M_Md_order R2 false (fun r h3 => ∃ t9 : Int32, r = .inl (some (.int t9)) ∧ t9 = t ∧ iN h3) 0 (zentry 3 [.ref 84]) [] h2 0 0 := by
  obtain ⟨⟨th, op, tc, dc, jc, bc, pn, ms, ml, mo, mT, mp, pt, po, pa, pw, bs, bf, tr, tk, tb, ty, sd, fc, cc, nu, pb, so, S, hC, hR, hG, hK, hd, ho, hm⟩, fl, hO⟩ := hN
  obtain ⟨sf, hsf⟩ := Classical.skolem.mp (fun k => show ∃ s, k < bc → s < 64 ∧ sd k = nI s from by
    by_cases q : k < bc
    · obtain ⟨s, h1, -, -, -, h5, -⟩ := hG.at q
      exact ⟨s, fun _ => ⟨h1, h5⟩⟩
    · exact ⟨0, fun z => absurd z q⟩)
  refine ⟨_, _, _, ⟨by decide, by decide, rfl, rfl⟩, r_order hC hG.nn hG.le hsf hd hK.1, fun t1 h2 q1 => ?_⟩
  obtain ⟨hz1, n1, T1, rfl, s1, s2, hC1⟩ := q1
  have hR2 := zkp_r (zkp_z hz1) hR
  refine ⟨⟨_, hR2.1⟩, _, ⟨by decide, by decide, rfl, rfl⟩, pw_mono (fun r h3 q => ?_) (p_order hR2 hd hG.le hG.fx hK.tq)⟩
  obtain ⟨t, rfl, hz, q⟩ := q
  refine ⟨t, rfl, ?_⟩
  obtain ⟨n2, T2, rfl, r1, r2, hR3⟩ := q
  obtain ⟨e1, ⟨e2, e3, e4⟩, e5⟩ := iOrd hG.1 hG.2.1 hG.zg hG.2.2.2.2.2.1 hG.2.2.2.2.2.2.1 hG.2.2.2.2.2.2.2.1 ho hsf hd (T := (tc, tk, tb, ty)) (T' := (tc, tr, tb, ty)) hK.1.1 ⟨rfl, hK.2, rfl⟩ s1 s2 r1 r2
  subst e1
  refine ⟨rfl, ?_⟩
  have e41 : T2.2.2.1 = T1.2.2.1 := by rw [e4]
  have e42 : T2.2.2.2 = T1.2.2.2 := by rw [e4]
  rw [e2, e41, e42] at hR3
  have hto : zTo bc T1 := ⟨e5, ?_⟩
  · exact fin_P hC1 (zOu_z hz1 hO) hz hR3 hG ⟨hto, e3⟩ hd ho hm
  · exact zStn_to hG.le n1 s1 hK.1
theorem e_unjoint {G : zG} {h : zH} (hN : iN h) : ∃ (R1 : Room) (P1 : Bool) (D : Int32 → zH → Prop), zRlt R1 ∧ PW G M_WP_unjoint R1 P1 (fun r h2 => ∃ t : Int32, r = .inl (some (.int t)) ∧ D t h2) 0 (zentry 1 [.ref 0]) [] h 0 0 ∧ ∀ t h2, D t h2 → (∃ fs, h2[84]? = some (.inr (6, fs))) ∧ ∃ R2 : Room, zRlt R2 ∧ PW G M_Md_unjoint R2 false (fun r h3 => ∃ t9 : Int32, r = .inl (some (.int t9)) ∧ t9 = t ∧ iN h3) 0 (zentry 1 [.ref 84]) [] h2 0 0 := by
  obtain ⟨⟨th, op, tc, dc, jc, bc, pn, ms, ml, mo, mT, mp, pt, po, pa, pw, bs, bf, tr, tk, tb, ty, sd, fc, cc, nu, pb, so, S, hC, hR, hG, hK, hd, ho, hm⟩, fl, hO⟩ := hN
  by_cases hj : jc = 0
  · refine ⟨_, _, _, ⟨by decide, by decide, rfl, rfl⟩, r_unjoint0 hC hj, fun t1 h2 q1 => ?_⟩
    obtain ⟨hz1, rfl, hC1⟩ := q1
    have hR2 := zkp_r (zkp_z hz1) hR
    refine ⟨⟨_, hR2.1⟩, _, ⟨by decide, by decide, rfl, rfl⟩, pw_mono (fun r h3 q => ?_) (p_unjoint0 hR2 hj)⟩
    obtain ⟨t, rfl, hz, q⟩ := q
    refine ⟨t, rfl, ?_⟩
    exact ⟨q.1, fin_P hC1 (zOu_z hz1 hO) hz q.2 hG hK hd ho hm⟩
  · obtain ⟨j, rfl⟩ : ∃ j, jc = j + 1 := ⟨jc - 1, by omega⟩
    have hj6 : j < 6 := by have := hG.1; omega
    obtain ⟨c2, hpb, hc2, hpt⟩ := iPt_drop hj6 hG.2.2.1
    have hpl := iPl_less hG.2.1
    refine ⟨_, _, _, ⟨by decide, by decide, rfl, rfl⟩, r_unjoint hC hj6 hpb hc2, fun t1 h2 q1 => ?_⟩
    obtain ⟨hz1, rfl, hC1⟩ := q1
    have hR2 := zkp_r (zkp_z hz1) hR
    refine ⟨⟨_, hR2.1⟩, _, ⟨by decide, by decide, rfl, rfl⟩, pw_mono (fun r h3 q => ?_) (p_unjoint hR2 hG.1 hG.2.1.1 hG.2.1.2.1)⟩
    obtain ⟨t, rfl, hz, q⟩ := q
    refine ⟨t, rfl, ?_⟩
    obtain ⟨rfl, pn9, bl9, pt9, po9, pa9, pw9, bs9, bf9, tk9, hR3, hcut⟩ := q
    refine ⟨rfl, ?_⟩
    rw [zkn_d j hj6] at hC1
    obtain ⟨b1, b2, b3⟩ := iBl_c (by omega) hpl hpt.1 (T := zUB (zkn (j + 1)) S j c2 (0, sd, fc, cc, nu)) (B0 := (0, sd, fc, cc, nu)) (by rw [← zkn_d j hj6]; rfl)
    obtain ⟨b4, b5⟩ := iBl_r (by omega) hpl hcut
    obtain ⟨e9, -⟩ := iBl_eq b1 b4
    subst e9
    exact fin_P hC1 (zOu_z hz1 hO) hz hR3 ⟨by omega, hpl, hpt, rCut_pg (by omega) hcut, hcut.1, b1, b4, b2, b3⟩ (iK0 (iBl_le (by omega) b1) b5) hd ho hm
