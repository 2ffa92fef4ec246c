section PKS
variable {G : zG} {M M' : zM} {R R' : Room} {pl pl' : List (Option Value)} {h : zH} {E : Int32 → zO → zH → Prop}
theorem pk_T {F : zH → Prop} {κ : Int32} (w : PW G M R false (fun r h2 => r = .inl (some (.int κ)) ∧ F h2) 0 pl [] h 0 0) (k : ∀ h2, F h2 → (∃ fs, h2[84]? = some (.inr (6, fs))) ∧ PW G M' R' false (E κ) 0 pl' [] h2 0 0) : ∃ D : Int32 → zH → Prop, PW G M R false (fun r h2 => ∃ k : Int32, r = .inl (some (.int k)) ∧ D k h2) 0 pl [] h 0 0 ∧ ∀ k h2, D k h2 → (∃ fs, h2[84]? = some (.inr (6, fs))) ∧ PW G M' R' false (E k) 0 pl' [] h2 0 0 :=
  ⟨fun k h2 => k = κ ∧ F h2, pw_mono (fun r h2 q => ⟨κ, q.1, rfl, q.2⟩) w, fun k' h2 q => by obtain ⟨rfl, q⟩ := q; exact k h2 q⟩
theorem pk_R {F : Int32 → zH → Prop} {K : Int32 → zH → zH} (w : PW G M R false (fun r h2 => ∃ (t : Int32) (h1 : zH), r = .inl (some (.int 0)) ∧ F t h1 ∧ h2 = K t h1) 0 pl [] h 0 0) (k : ∀ t h1 h2, F t h1 → h2 = K t h1 → (∃ fs, h2[84]? = some (.inr (6, fs))) ∧ PW G M' R' false (E 0) 0 pl' [] h2 0 0) : ∃ D : Int32 → zH → Prop, PW G M R false (fun r h2 => ∃ k : Int32, r = .inl (some (.int k)) ∧ D k h2) 0 pl [] h 0 0 ∧ ∀ k h2, D k h2 → (∃ fs, h2[84]? = some (.inr (6, fs))) ∧ PW G M' R' false (E k) 0 pl' [] h2 0 0 :=
  ⟨fun k h2 => k = 0 ∧ ∃ t h1, F t h1 ∧ h2 = K t h1, pw_mono (fun r h2 q => by obtain ⟨t, h1, e, q1, q2⟩ := q; exact ⟨0, e, rfl, t, h1, q1, q2⟩) w, fun k' h2 q => by obtain ⟨rfl, t, h1, q1, q2⟩ := q; exact k t h1 h2 q1 q2⟩
end PKS
section FIN
variable {op : Int32} {tc dc jc bc pn : Nat} {ms ml mo mT mp pt po pa pw bs bf tr tk tb ty sd fc cc nu pb so : Nat → Int32} {S : zPS}
theorem rAll_p {h h2 : zH} {c : zE} {fl : Nat → Int64} {th : Int32} (hO : zOu h fl) (e : h2 = h ++ [c]) (hR : rAll h th jc dc pn bc tc ms ml mo mT mp pt po pa pw bs bf tr tb ty) : rAll h2 th jc dc pn bc tc ms ml mo mT mp pt po pa pw bs bf tr tb ty := rAll_lo (fun a b q => zp_ne e q) hR
theorem rAll_w {h h1 h2 : zH} {c : zE} {th : Int32} (hz : zsm zKP h h1) (e : h2 = h1.set 104 c) (hR : rAll h th jc dc pn bc tc ms ml mo mT mp pt po pa pw bs bf tr tb ty) : rAll h2 th jc dc pn bc tc ms ml mo mT mp pt po pa pw bs bf tr tb ty := zkp_r (zkp_s (zkp_z hz) e) hR
theorem fin_T {h h2 h3 : zH} {c : zE} {fl : Nat → Int64} {κ : Int32} {v : Int64} (hC : iC h op tc dc jc bc ms ml mT mp tk tb ty sd fc cc nu pb so S) (hO : zOu h fl) (e : h2 = h ++ [c]) (hz : zsm zMP h2 h3) (hR : rAll h3 κ jc dc pn bc tc ms ml mo mT mp pt po pa pw bs bf tr tb ty) (hG : iG jc bc pn ms ml pb pt po pa pw sd fc cc nu bs bf S) (hK : iK bc tc tk tr tb ty) (hd : dc ≤ 8) (ho : iOp op mo) (hm : iMp mp) (hk : κ ≠ 0) : iE h3 κ v :=
  ⟨⟨op, tc, dc, jc, bc, pn, ms, ml, mo, mT, mp, pt, po, pa, pw, bs, bf, tr, tk, tb, ty, sd, fc, cc, nu, pb, so, S, cAll_m hz (cAll_p e hC), hR, hG, hK, hd, ho, hm⟩, fl, zOu_m hz (zp_ne e hO), fun q => absurd q hk⟩
theorem fin_R {h1 h2 h3 : zH} {fl : Nat → Int64} {v w : Int64} (hC : iC h1 op tc dc jc bc ms ml mT mp tk tb ty sd fc cc nu pb so S) (hO : zOu h1 fl) (e : h2 = h1.set 104 (.inl (2, 1, .inr (.inl (vp_updL fl 0 v))))) (hz : zsm zMP h2 h3) (hR : rAll h3 0 jc dc pn bc tc ms ml mo mT mp pt po pa pw bs bf tr tb ty) (hG : iG jc bc pn ms ml pb pt po pa pw sd fc cc nu bs bf S) (hK : iK bc tc tk tr tb ty) (hd : dc ≤ 8) (ho : iOp op mo) (hm : iMp mp) (hv : v = w) : iE h3 0 w :=
  ⟨⟨op, tc, dc, jc, bc, pn, ms, ml, mo, mT, mp, pt, po, pa, pw, bs, bf, tr, tk, tb, ty, sd, fc, cc, nu, pb, so, S, cAll_m hz (cAll_s e hC), hR, hG, hK, hd, ho, hm⟩, _, zOu_m hz (zg_eq e hO), fun _ => (if_pos rfl : vp_updL fl 0 v 0 = v).trans hv⟩
end FIN
theorem nI_ex {w : Int32} (h : 0 ≤ w.toInt) : ∃ f : Nat, w = nI f ∧ (f : Int) = w.toInt := by
  refine ⟨w.toInt.toNat, ?_, by omega⟩
  have h2 : w.toInt < 2147483648 := by have := Int32.toInt_lt w; omega
  apply Int32.toInt_inj.mp
  rw [nI_toInt (by omega)]
  omega
theorem e_joint {G : zG} {h : zH} (hN : iN h) {a b c d : Int32} : ∃ D : Int32 → zH → Prop, PW G M_Law_joint (zroom 8 1 6) false (fun r h2 => ∃ k : Int32, r = .inl (some (.int k)) ∧ D k h2) 0 (zentry 7 [.ref 0, .int a, .int b, .int c, .int d, .ref 104]) [] h 0 0 ∧ ∀ k h2, D k h2 → (∃ fs, h2[84]? = some (.inr (6, fs))) ∧ PW G M_Md_joint (zroom 4 0 0) false (fun r h3 => ∃ t : Int32, r = .inl (some (.int t)) ∧ iE h3 k t.toInt64) 0 (zentry 5 [.ref 84, .int a, .int b, .int c, .int d]) [] h2 0 0 := by
  obtain ⟨⟨th, op, tc, dc, jc, bc, pn, ms, ml, mo, mT, mp, pt, po, pa, pw, bs, bf, tr, tk, tb, ty, sd, fc, cc, nu, pb, so, S, hC, hR, hG, hK, hd, ho, hm⟩, fl, hO⟩ := hN
  by_cases hj : cJt jc ms ml a b c d
  · by_cases h6 : jc = 6
    · refine pk_T (gt_joint2 (F := fun h2 => h2 = h ++ [.inr (8, [])]) ⟨by decide, by decide, by decide, by decide⟩ hC.1.1 (t_jointS hC hj.1 hj.2 h6) (fun r h' q => ⟨⟨_, q.1, by rw [q.2]; exact zp_eq rfl rfl⟩, q.2⟩)) (fun h2 e => ?_)
      have hR2 := rAll_p hO e hR
      refine ⟨⟨_, hR2.1⟩, pw_mono (fun r h3 q => ?_) (p_joint hR2 hG.1 hG.2.1.1 hG.2.1.2.1)⟩
      obtain ⟨t, rfl, hz, q⟩ := q
      refine ⟨t, rfl, ?_⟩
      rcases q with ⟨n, -⟩ | ⟨-, -, q⟩ | ⟨-, n, -⟩
      · exact absurd (iJt.mp hj) n
      · exact fin_T hC hO e hz q hG hK hd ho hm (by decide)
      · omega
    · have hj6 : jc < 6 := by have := hG.1; omega
      have hpl := iJt_pl hj6 hG.2.1 hj
      obtain ⟨hpt, hfin, hbd⟩ := iPt_add hj6 hpl hG.2.2.1
      refine pk_R (gw_joint ⟨by decide, by decide, by decide, by decide⟩ hC.1.1 hO (r_joint hC hj.1 hj.2 hj6 hbd hfin) (fun t h' q => zOu_z q.1 hO)) (fun t h1 h2 q e => ?_)
      obtain ⟨hz1, rfl, hC1⟩ := q
      have hR2 := rAll_w hz1 e hR
      refine ⟨⟨_, hR2.1⟩, pw_mono (fun r h3 q => ?_) (p_joint hR2 hG.1 hG.2.1.1 hG.2.1.2.1)⟩
      obtain ⟨t, rfl, hz, q⟩ := q
      refine ⟨t, rfl, ?_⟩
      rcases q with ⟨n, -⟩ | ⟨-, n, -⟩ | ⟨-, -, rfl, pn9, bl9, pt9, po9, pa9, pw9, bs9, bf9, tk9, hR3, hcut⟩
      · exact absurd (iJt.mp hj) n
      · omega
      · rw [zkn_s jc hj6, ← zmlA (b := b) (c := c) (d := d), ← zmlB (a := a) (c := c) (d := d), ← zmlC (a := a) (b := b) (d := d), ← zmlD (a := a) (b := b) (c := c)] at hC1
        obtain ⟨b1, b2, b3⟩ := iBl_c (by omega) hpl hpt.1 (T := zJB (zkn jc) (ms 0) (ms 1) (ms 2) (mA ml) (mB ml) (mC ml) (mD ml) jc S a b c d (0, sd, fc, cc, nu)) (B0 := (0, sd, fc, cc, nu)) (by rw [← zkn_s jc hj6]; rfl)
        obtain ⟨b4, b5⟩ := iBl_r (by omega) hpl hcut
        obtain ⟨e9, -⟩ := iBl_eq b1 b4
        subst e9
        exact fin_R hC1 (zOu_z hz1 hO) e hz hR3 ⟨by omega, hpl, hpt, rCut_pg (by omega) hcut, hcut.1, b1, b4, b2, b3⟩ (iK0 (iBl_le (by omega) b1) b5) hd ho hm rfl
  · refine pk_T (gt_joint1 (F := fun h2 => h2 = h ++ [.inr (7, [])]) ⟨by decide, by decide, by decide, by decide⟩ hC.1.1 (t_jointA hC hG.1 hj) (fun r h' q => ⟨⟨_, q.1, by rw [q.2]; exact zp_eq rfl rfl⟩, q.2⟩)) (fun h2 e => ?_)
    have hR2 := rAll_p hO e hR
    refine ⟨⟨_, hR2.1⟩, pw_mono (fun r h3 q => ?_) (p_joint hR2 hG.1 hG.2.1.1 hG.2.1.2.1)⟩
    obtain ⟨t, rfl, hz, q⟩ := q
    refine ⟨t, rfl, ?_⟩
    rcases q with ⟨-, q⟩ | ⟨n, -⟩ | ⟨n, -⟩
    · exact fin_T hC hO e hz q hG hK hd ho hm (by decide)
    · exact absurd (iJt.mpr n) hj
    · exact absurd (iJt.mpr n) hj
