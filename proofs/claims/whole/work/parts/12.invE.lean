/-- the pull's parts -/
def iMp (mp : Nat → Int32) : Prop := ∀ c, c < 3 → -9 ≤ mp c ∧ mp c ≤ 9
theorem zbd_r {x : Int32} {M : Int32} {m : Int} (hM : M.toInt = m) (hM' : (-M).toInt = -m) (h1 : -M ≤ x) (h2 : x ≤ M) : zbd m x x.toInt := by
  rw [Int32.le_iff_toInt_le, hM'] at h1
  rw [Int32.le_iff_toInt_le, hM] at h2
  exact ⟨rfl, h1, h2⟩
theorem rIn_bd {ml bs : Nat → Int32} (hb : zpb (mA ml) (mB ml) (mC ml) (mD ml)) {k f : Nat} (hf : f < 12) {c : Nat} (hc : c < 3) : zbd 6 (rIn ml bs k f c) (rIn ml bs k f c).toInt := by
  have h0 : zbd 6 (ml (4 * f + c)) (ml (4 * f + c)).toInt := by
    obtain ⟨h1, h2, h3, -⟩ := hb f hf
    have : c = 0 ∨ c = 1 ∨ c = 2 := by omega
    rcases this with rfl | rfl | rfl
    · exact h1
    · exact h2
    · exact h3
  unfold rIn
  split
  · obtain ⟨a1, a2, a3⟩ := zbd_neg h0 (by decide)
    exact ⟨rfl, by omega, by omega⟩
  · exact h0
theorem rCx_bd {u v : Nat → Int32} (hu : ∀ c, c < 3 → zbd 6 (u c) (u c).toInt) (hv : ∀ c, c < 3 → zbd 6 (v c) (v c).toInt) (c : Nat) : ∃ w, zbd 72 (rCx u v c) w := by
  have u0 := hu 0 (by decide); have u1 := hu 1 (by decide); have u2 := hu 2 (by decide)
  have v0 := hv 0 (by decide); have v1 := hv 1 (by decide); have v2 := hv 2 (by decide)
  unfold rCx
  split
  · exact ⟨_, zbd_cx u1 v2 u2 v1 (by decide)⟩
  · split
    · exact ⟨_, zbd_cx u2 v0 u0 v2 (by decide)⟩
    · exact ⟨_, zbd_cx u0 v1 u1 v0 (by decide)⟩
theorem zln_by {g1 g2 g3 k1 k2 k3 : Int32} {w : Int} (hb : zbd 100000 (g1 * k1 + g2 * k2 + g3 * k3) w) : 0 < g1 * (zLn g1 g2 g3 k1 k2 k3).1 + g2 * (zLn g1 g2 g3 k1 k2 k3).2.1 + g3 * (zLn g1 g2 g3 k1 k2 k3).2.2 ↔ ¬ g1 * k1 + g2 * k2 + g3 * k3 = 0 := by
  have z0 : zbd 0 (0 : Int32) 0 := ⟨rfl, by decide, by decide⟩
  unfold zLn
  split
  · next h =>
    have e : g1 * (k1 * (-1)) + g2 * (k2 * (-1)) + g3 * (k3 * (-1)) = -(g1 * k1 + g2 * k2 + g3 * k3) := by grind
    show 0 < g1 * (k1 * (-1)) + g2 * (k2 * (-1)) + g3 * (k3 * (-1)) ↔ _
    rw [e, zbd_lt z0 (zbd_neg hb (by decide)), zbd_eq hb z0]
    have := (zbd_lt hb z0).mp h
    omega
  · next h =>
    show 0 < g1 * k1 + g2 * k2 + g3 * k3 ↔ _
    rw [zbd_lt z0 hb, zbd_eq hb z0]
    have := mt (zbd_lt hb z0).mpr h
    omega
section IVG
variable {J : Nat} {ms ml mo tk tk' mp : Nat → Int32} {op : Int32} {bc : Nat} {sd fc nu bs bf : Nat → Int32} {S : zPS}
theorem rMd_un {bl k : Nat} {t t' : Int32} (h : rMd ml mo tk bs bf mp bl k t) (h' : rMd ml mo tk bs bf mp bl k t') : t = t' := by
  rcases h with ⟨rfl, h1⟩ | ⟨h1, h2⟩ <;> rcases h' with ⟨rfl, k1⟩ | ⟨k1, k2⟩
  · rfl
  · exact absurd h1 k1
  · exact absurd k1 h1
  · rcases h2 with ⟨i, i1, rfl, i2, i3⟩ | ⟨i1, i2⟩ <;> rcases k2 with ⟨j, j1, rfl, j2, j3⟩ | ⟨j1, j2⟩
    · have : i = j := by
        rcases Nat.lt_trichotomy i j with q | q | q
        · exact absurd i2 (j3 i q)
        · exact q
        · exact absurd j2 (i3 j q)
      rw [this]
    · exact absurd i2 (j1 i i1)
    · exact absurd j2 (i1 j j1)
    · rcases i2 with ⟨f, j, f1, f2, rfl, f3, f4⟩ | ⟨rfl, f1⟩ <;> rcases j2 with ⟨e, i, e1, e2, rfl, e3, e4⟩ | ⟨rfl, e1⟩
      · have : f = e ∧ j = i := by
          by_cases q1 : f < e ∨ (f = e ∧ j < i)
          · exact absurd f3 (e4 f j f1 f2 q1)
          · by_cases q2 : e < f ∨ (e = f ∧ i < j)
            · exact absurd e3 (f4 e i e1 e2 q2)
            · omega
        rw [this.1, this.2]
      · exact absurd f3 (e1 f j f1 f2)
      · exact absurd e3 (f1 e i e1 e2)
      · rfl
--MODE
end IVG
/-- what the class answers to a pull -/
def cMd (op : Int32) (tk sd fc nu A B C : Nat → Int32) (p1 p2 p3 : Int32) (k s9 : Nat) (t : Int32) : Prop := ∃ (F : Int32) (ix iy iz : Nat → Int32), ((∀ f, f < 12 → ((F >>> (nI f &&& 31)) &&& 1 = 1 ↔ ((fc k >>> (nI f &&& 31)) &&& 1 = 1 ∧ ¬ (if 6 ≤ f then (op >>> (nI f &&& 31)) &&& 1 = 1 else ((fc k >>> (nI f &&& 31)) &&& 1 = 1 ∧ ∃ o, o < 64 ∧ nu (s9 ^^^ (1 <<< f)) = nI o ∧ tk o = 1))))) ∧ (∀ f, f < 12 → ((fc k >>> (nI f &&& 31)) &&& 1 = 1 ∧ ¬ (if 6 ≤ f then (op >>> (nI f &&& 31)) &&& 1 = 1 else ((fc k >>> (nI f &&& 31)) &&& 1 = 1 ∧ ∃ o, o < 64 ∧ nu (s9 ^^^ (1 <<< f)) = nI o ∧ tk o = 1))) → ix f = A f * (if (if ((sd k ||| 1344) >>> (nI f &&& 31)) &&& 1 = 1 then (1 : Int32) else 0) = 0 then (-1 : Int32) else 1) ∧ iy f = B f * (if (if ((sd k ||| 1344) >>> (nI f &&& 31)) &&& 1 = 1 then (1 : Int32) else 0) = 0 then (-1 : Int32) else 1) ∧ iz f = C f * (if (if ((sd k ||| 1344) >>> (nI f &&& 31)) &&& 1 = 1 then (1 : Int32) else 0) = 0 then (-1 : Int32) else 1))) ∧ ((t = 1 ∧ (¬ (p1 = 0 ∧ p2 = 0 ∧ p3 = 0) ∧ ∀ f, f < 12 → (F >>> (nI f &&& 31)) &&& 1 = 1 → ¬ (p1 * ix f + p2 * iy f + p3 * iz f < 0))) ∨ (¬ (¬ (p1 = 0 ∧ p2 = 0 ∧ p3 = 0) ∧ ∀ f, f < 12 → (F >>> (nI f &&& 31)) &&& 1 = 1 → ¬ (p1 * ix f + p2 * iy f + p3 * iz f < 0)) ∧ ∃ sx sy sz : Nat → Int32, (∀ f, f < 12 → (F >>> (nI f &&& 31)) &&& 1 = 1 → sx f = (p1 * (ix f * ix f + iy f * iy f + iz f * iz f) - ix f * (p1 * ix f + p2 * iy f + p3 * iz f)) ∧ sy f = (p2 * (ix f * ix f + iy f * iy f + iz f * iz f) - iy f * (p1 * ix f + p2 * iy f + p3 * iz f)) ∧ sz f = (p3 * (ix f * ix f + iy f * iy f + iz f * iz f) - iz f * (p1 * ix f + p2 * iy f + p3 * iz f))) ∧ ((∃ i, i < 12 ∧ t = 10 + nI i ∧ ((F >>> (nI i &&& 31)) &&& 1 = 1 ∧ p1 * ix i + p2 * iy i + p3 * iz i < 0 ∧ (¬ (sx i = 0 ∧ sy i = 0 ∧ sz i = 0) ∧ ∀ f, f < 12 → (F >>> (nI f &&& 31)) &&& 1 = 1 → ¬ (sx i * ix f + sy i * iy f + sz i * iz f < 0))) ∧ ∀ j, j < i → ¬ ((F >>> (nI j &&& 31)) &&& 1 = 1 ∧ p1 * ix j + p2 * iy j + p3 * iz j < 0 ∧ (¬ (sx j = 0 ∧ sy j = 0 ∧ sz j = 0) ∧ ∀ f, f < 12 → (F >>> (nI f &&& 31)) &&& 1 = 1 → ¬ (sx j * ix f + sy j * iy f + sz j * iz f < 0)))) ∨ ((∀ i, i < 12 → ¬ ((F >>> (nI i &&& 31)) &&& 1 = 1 ∧ p1 * ix i + p2 * iy i + p3 * iz i < 0 ∧ (¬ (sx i = 0 ∧ sy i = 0 ∧ sz i = 0) ∧ ∀ f, f < 12 → (F >>> (nI f &&& 31)) &&& 1 = 1 → ¬ (sx i * ix f + sy i * iy f + sz i * iz f < 0)))) ∧ zSt2 F ix iy iz sx sy sz p1 p2 p3 t))))
section IVH
variable {J : Nat} {ms ml mo tk tk' mp : Nat → Int32} {op : Int32} {bc : Nat} {sd fc nu bs bf : Nat → Int32} {S : zPS}
theorem zLn_ct {g1 g2 g3 : Int32} {w : Nat → Int32} {k1 k2 k3 b : Int32} (e1 : k1 = w 0) (e2 : k2 = w 1) (e3 : k3 = w 2) (eb : b = g1 * k1 + g2 * k2 + g3 * k3) : zLn g1 g2 g3 k1 k2 k3 = (rCt b w 0, rCt b w 1, rCt b w 2) := by
  subst eb e1 e2 e3
  unfold zLn rCt
  by_cases q : g1 * w 0 + g2 * w 1 + g3 * w 2 < 0
  · rw [if_pos q, if_pos q, if_pos q, if_pos q]
    have m : ∀ x : Int32, x * (-1) = -x := fun x => by grind
    rw [m, m, m]
  · rw [if_neg q, if_neg q, if_neg q, if_neg q]
theorem iMd (hJ : J ≤ 6) (hp : iPl J ms ml) (hg : zPg (zkn J) (mA ml) (mB ml) (mC ml) (mD ml) (ms 0) (ms 1) (ms 2) S) (hb : iBl J ms ml bc sd fc) (hb' : iBl J ms ml bc bs bf) (hn : iNu J ms ml nu) (ho : iOp op mo) (hm : iMp mp) (ht : ∀ o, o < 64 → tk o = 0 ∨ tk o = 1) (htt : ∀ k, k < bc → tk' k = tk k) {k : Nat} (hk : k < bc) {s : Nat} (hs : s < 64) (hsd : sd k = nI s) (h0 : tk k = 0) {t : Int32} (h : cMd op tk sd fc nu (mA ml) (mB ml) (mC ml) (mp 0) (mp 1) (mp 2) k s t) : rMd ml mo tk' bs bf mp bc k t := by
  obtain ⟨F, ix, iy, iz, ⟨hF, hI⟩, ha⟩ := h
  have hk0 : tk' k = 0 := (htt k hk).trans h0
  have hH : ∀ f, f < 12 → ((F >>> (nI f &&& 31)) &&& 1 = 1 ↔ rHd mo tk' bs bf bc k f) := fun f hf => (hF f hf).trans (iHd hJ hp hg hb hb' hn ho ht htt hk hf hs hsd)
  have hX : ∀ f, f < 12 → rHd mo tk' bs bf bc k f → ix f = rIn ml bs k f 0 ∧ iy f = rIn ml bs k f 1 ∧ iz f = rIn ml bs k f 2 := fun f hf q => by
    obtain ⟨x1, x2, x3⟩ := hI f hf ((iHd hJ hp hg hb hb' hn ho ht htt hk hf hs hsd).mpr q)
    exact ⟨x1.trans (iIn hJ hb hb' hk hf 0), x2.trans (iIn hJ hb hb' hk hf 1), x3.trans (iIn hJ hb hb' hk hf 2)⟩
  have L : ∀ a b c : Int32, (¬ (a = 0 ∧ b = 0 ∧ c = 0) ∧ ∀ f, f < 12 → (F >>> (nI f &&& 31)) &&& 1 = 1 → ¬ (a * ix f + b * iy f + c * iz f < 0)) ↔ rGo ml mo tk' bs bf bc k a b c := fun a b c => by
    refine and_congr_right (fun _ => forall_congr' fun f => forall_congr' fun hf => ⟨fun q r => ?_, fun q r => ?_⟩)
    · obtain ⟨x1, x2, x3⟩ := hX f hf r
      rw [← x1, ← x2, ← x3]
      exact q ((hH f hf).mpr r)
    · obtain ⟨x1, x2, x3⟩ := hX f hf ((hH f hf).mp r)
      rw [x1, x2, x3]
      exact q ((hH f hf).mp r)
  rcases ha with ⟨rfl, h1⟩ | ⟨h1, ux, uy, uz, hu, h2⟩
  · exact Or.inl ⟨rfl, (L _ _ _).mp h1⟩
  refine Or.inr ⟨fun q => h1 ((L _ _ _).mpr q), ?_⟩
  have hS : ∀ f, f < 12 → rHd mo tk' bs bf bc k f → ux f = rSl mp (rIn ml bs k f) 0 ∧ uy f = rSl mp (rIn ml bs k f) 1 ∧ uz f = rSl mp (rIn ml bs k f) 2 := fun f hf q => by
    obtain ⟨s1, s2, s3⟩ := hu f hf ((hH f hf).mpr q)
    obtain ⟨x1, x2, x3⟩ := hX f hf q
    rw [x1, x2, x3] at s1 s2 s3
    exact ⟨s1, s2, s3⟩
  have O : ∀ i, i < 12 → (((F >>> (nI i &&& 31)) &&& 1 = 1 ∧ mp 0 * ix i + mp 1 * iy i + mp 2 * iz i < 0 ∧ (¬ (ux i = 0 ∧ uy i = 0 ∧ uz i = 0) ∧ ∀ f, f < 12 → (F >>> (nI f &&& 31)) &&& 1 = 1 → ¬ (ux i * ix f + uy i * iy f + uz i * iz f < 0))) ↔ rOn ml mo tk' bs bf mp bc k i) := fun i hi => by
    rw [L, hH i hi]
    refine and_congr_right (fun q => ?_)
    obtain ⟨x1, x2, x3⟩ := hX i hi q
    obtain ⟨s1, s2, s3⟩ := hS i hi q
    rw [x1, x2, x3, s1, s2, s3]
    exact and_congr_right (fun _ => ⟨fun r => ⟨hk0, r⟩, fun r => r.2⟩)
  have W : ∀ f j, f < 12 → j < 12 → (((F >>> (nI f &&& 31)) &&& 1 = 1 ∧ (F >>> (nI j &&& 31)) &&& 1 = 1 ∧ zTw F ix iy iz ux uy uz (mp 0) (mp 1) (mp 2) f j) ↔ rAl ml mo tk' bs bf mp bc k f j) := fun f j hf hj => by
    rw [hH f hf, hH j hj]
    refine and_congr_right (fun q => and_congr_right (fun r => ?_))
    obtain ⟨x1, x2, x3⟩ := hX f hf q
    obtain ⟨y1, y2, y3⟩ := hX j hj r
    obtain ⟨s1, s2, s3⟩ := hS f hf q
    obtain ⟨r1, r2, r3⟩ := hS j hj r
    obtain ⟨w0, b0⟩ := rCx_bd (fun c hc => rIn_bd hp.1 (bs := bs) (k := k) hf hc) (fun c hc => rIn_bd hp.1 (bs := bs) (k := k) hj hc) 0
    obtain ⟨w1, b1⟩ := rCx_bd (fun c hc => rIn_bd hp.1 (bs := bs) (k := k) hf hc) (fun c hc => rIn_bd hp.1 (bs := bs) (k := k) hj hc) 1
    obtain ⟨w2, b2⟩ := rCx_bd (fun c hc => rIn_bd hp.1 (bs := bs) (k := k) hf hc) (fun c hc => rIn_bd hp.1 (bs := bs) (k := k) hj hc) 2
    have m0 := zbd_r (M := 9) (m := 9) rfl rfl (hm 0 (by decide)).1 (hm 0 (by decide)).2
    have m1 := zbd_r (M := 9) (m := 9) rfl rfl (hm 1 (by decide)).1 (hm 1 (by decide)).2
    have m2 := zbd_r (M := 9) (m := 9) rfl rfl (hm 2 (by decide)).1 (hm 2 (by decide)).2
    have hby := zbd_d3 m0 m1 m2 b0 b1 b2 (K := 100000) (by decide) (by decide)
    unfold zTw
    rw [x1, x2, x3, y1, y2, y3]
    unfold zTl
    have hln := zln_by hby
    have hct := zLn_ct (g1 := mp 0) (g2 := mp 1) (g3 := mp 2) (w := rCx (rIn ml bs k f) (rIn ml bs k j)) (k1 := rIn ml bs k f 1 * rIn ml bs k j 2 - rIn ml bs k f 2 * rIn ml bs k j 1) (k2 := rIn ml bs k f 2 * rIn ml bs k j 0 - rIn ml bs k f 0 * rIn ml bs k j 2) (k3 := rIn ml bs k f 0 * rIn ml bs k j 1 - rIn ml bs k f 1 * rIn ml bs k j 0) rfl rfl rfl rfl
    rw [hct]
    have hct' : zLn (mp 0) (mp 1) (mp 2) (rCx (rIn ml bs k f) (rIn ml bs k j) 0) (rCx (rIn ml bs k f) (rIn ml bs k j) 1) (rCx (rIn ml bs k f) (rIn ml bs k j) 2) = _ := hct
    rw [hct'] at hln
    have hgo := L (rCt (mp 0 * (rIn ml bs k f 1 * rIn ml bs k j 2 - rIn ml bs k f 2 * rIn ml bs k j 1) + mp 1 * (rIn ml bs k f 2 * rIn ml bs k j 0 - rIn ml bs k f 0 * rIn ml bs k j 2) + mp 2 * (rIn ml bs k f 0 * rIn ml bs k j 1 - rIn ml bs k f 1 * rIn ml bs k j 0)) (rCx (rIn ml bs k f) (rIn ml bs k j)) 0) (rCt (mp 0 * (rIn ml bs k f 1 * rIn ml bs k j 2 - rIn ml bs k f 2 * rIn ml bs k j 1) + mp 1 * (rIn ml bs k f 2 * rIn ml bs k j 0 - rIn ml bs k f 0 * rIn ml bs k j 2) + mp 2 * (rIn ml bs k f 0 * rIn ml bs k j 1 - rIn ml bs k f 1 * rIn ml bs k j 0)) (rCx (rIn ml bs k f) (rIn ml bs k j)) 1) (rCt (mp 0 * (rIn ml bs k f 1 * rIn ml bs k j 2 - rIn ml bs k f 2 * rIn ml bs k j 1) + mp 1 * (rIn ml bs k f 2 * rIn ml bs k j 0 - rIn ml bs k f 0 * rIn ml bs k j 2) + mp 2 * (rIn ml bs k f 0 * rIn ml bs k j 1 - rIn ml bs k f 1 * rIn ml bs k j 0)) (rCx (rIn ml bs k f) (rIn ml bs k j)) 2)
    constructor
    · rintro ⟨a1, a2, a3, a4⟩
      refine ⟨?_, ?_, hln.mp a1, hk0, hgo.mp a2⟩
      · rw [← s1, ← s2, ← s3, ← y1, ← y2, ← y3]; exact a3
      · rw [← r1, ← r2, ← r3, ← x1, ← x2, ← x3]; exact a4
    · rintro ⟨a3, a4, a1, -, a2⟩
      refine ⟨hln.mpr a1, hgo.mpr a2, ?_, ?_⟩
      · rw [s1, s2, s3, y1, y2, y3]; exact a3
      · rw [r1, r2, r3, x1, x2, x3]; exact a4
  rcases h2 with ⟨i, i1, i2, i3, i4⟩ | ⟨i1, i2⟩
  · exact Or.inl ⟨i, i1, i2, (O i i1).mp i3, fun j hj q => i4 j hj ((O j (by omega)).mpr q)⟩
  · refine Or.inr ⟨fun i hi q => i1 i hi ((O i hi).mpr q), ?_⟩
    rcases i2 with ⟨f, j, f1, f2, f3, f4, f5⟩ | ⟨f1, f2⟩
    · exact Or.inl ⟨f, j, f1, f2, f3, (W f j (by omega) f2).mp f4, fun e i e1 e2 e3 q => f5 e i e1 e2 e3 ((W e i (by omega) e2).mpr q)⟩
    · exact Or.inr ⟨f1, fun f j e1 e2 q => f2 f j e1 e2 ((W f j (by omega) e2).mpr q)⟩
end IVH
