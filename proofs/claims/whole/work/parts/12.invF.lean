abbrev iCp (m : Int32) (S : zPS) (so : Nat → Int32) : Nat × (Nat → Int32) := zcp m S.2.1 S.2.2.1 S.2.2.2.1 S.2.2.2.2.1 S.2.2.2.2.2.1 S.2.2.2.2.2.2 so S.1
def i4 (x y z q : Int32) : Int × Int × Int × Int := (x.toInt, y.toInt, z.toInt, q.toInt)
def i4L (a b : Int × Int × Int × Int) : Prop := 0 < a.2.2.2 ∧ 0 < b.2.2.2 ∧ gL a.1 a.2.1 a.2.2.1 a.2.2.2 b.1 b.2.1 b.2.2.1 b.2.2.2
theorem i4_eq {x y z q x' y' z' q' : Int32} (h : i4 x y z q = i4 x' y' z' q') : x = x' ∧ y = y' ∧ z = z' ∧ q = q' := by
  unfold i4 at h
  simp only [Prod.mk.injEq, Int32.toInt_inj] at h
  exact h
section IVI
variable {J : Nat} {ms ml pt po pa pw so : Nat → Int32} {pn : Nat} {S : zPS}
theorem gW_g4 {kn : Nat → Prop} {A B C D : Nat → Int} {sx sy sz x y z q : Int} (h : gW kn A B C D sx sy sz x y z q) : g4 x y z q = 1 := by
  obtain ⟨a, b, c, -, -, -, -, -, -, h1, h2, h3, -⟩ := h
  exact h2
theorem zPg_rd {kn sx sy sz : Int32} {A B C D : Nat → Int32} (hg : zPg kn A B C D sx sy sz S) : ∀ p r, p < S.1 → r < S.1 → (S.2.1 p).toInt * (S.2.2.2.2.1 r).toInt = (S.2.1 r).toInt * (S.2.2.2.2.1 p).toInt → (S.2.2.1 p).toInt * (S.2.2.2.2.1 r).toInt = (S.2.2.1 r).toInt * (S.2.2.2.2.1 p).toInt → (S.2.2.2.1 p).toInt * (S.2.2.2.2.1 r).toInt = (S.2.2.2.1 r).toInt * (S.2.2.2.2.1 p).toInt → p = r := by
  intro p r hp hr e1 e2 e3
  have g1 := gW_g4 ((hg.2.2 _ _ _ _).mp ⟨p, hp, rfl, rfl, rfl, rfl⟩)
  have g2 := gW_g4 ((hg.2.2 _ _ _ _).mp ⟨r, hr, rfl, rfl, rfl, rfl⟩)
  obtain ⟨k1, k2, k3, k4⟩ := g_red (hg.2.1.1 p hp).1.1 (hg.2.1.1 r hr).1.1 g1 g2 e1 e2 e3
  exact hg.2.1.2 p r hp hr k1 k2 k3 k4
theorem iCn (hJ : J ≤ 6) (h : iPl J ms ml) (hg : zPg (zkn J) (mA ml) (mB ml) (mC ml) (mD ml) (ms 0) (ms 1) (ms 2) S) (hS : S.1 ≤ 220) (hr : rPg J ms ml pn pt po pa pw) {s : Nat} (hs : s < 64) : (iCp (nI s ||| 1344) S so).1 = zct (fun p => ztp (nI s) pa pw p) pn ∧ ∀ i p9 p, i < (iCp (nI s ||| 1344) S so).1 → (iCp (nI s ||| 1344) S so).2 i = nI p9 → p9 < 220 → p < pn → ztp (nI s) pa pw p → zct (fun p => ztp (nI s) pa pw p) p = i → S.2.1 p9 = pt (4 * p) ∧ S.2.2.1 p9 = pt (4 * p + 1) ∧ S.2.2.2.1 p9 = pt (4 * p + 2) ∧ S.2.2.2.2.1 p9 = pt (4 * p + 3) := by
  obtain ⟨e, h1, h2, h3⟩ := zcp_so hg.2.1 (zPg_rd hg) hS (nI s ||| 1344) so S.1 (Nat.le_refl _)
  have hw : ∀ j, ∃ p, j < zct (fun p => ztp (nI s) pa pw p) pn → p < pn ∧ ztp (nI s) pa pw p ∧ zct (fun p => ztp (nI s) pa pw p) p = j := fun j => by
    by_cases q : j < zct (fun p => ztp (nI s) pa pw p) pn
    · obtain ⟨p, a1, a2, a3⟩ := zct_sur q
      exact ⟨p, fun _ => ⟨a1, a2, a3⟩⟩
    · exact ⟨0, fun z => absurd z q⟩
  obtain ⟨w, hw⟩ := Classical.skolem.mp hw
  have hz := z_srt (R := i4L) (u := fun i => i4 (S.2.1 (e i)) (S.2.2.1 (e i)) (S.2.2.2.1 (e i)) (S.2.2.2.2.1 (e i))) (v := fun j => i4 (pt (4 * w j)) (pt (4 * w j + 1)) (pt (4 * w j + 2)) (pt (4 * w j + 3))) (n := (iCp (nI s ||| 1344) S so).1) (m := zct (fun p => ztp (nI s) pa pw p) pn)
    (fun a q => gL_ir q.2.2) (fun a b c q r => ⟨q.1, r.2.1, gL_tr q.1 q.2.1 r.2.1 q.2.2 r.2.2⟩)
    (fun i j hij hj => by
      obtain ⟨a1, -⟩ := h1 i (Nat.lt_trans hij hj)
      obtain ⟨b1, -⟩ := h1 j hj
      exact ⟨(hg.2.1.1 _ a1).1.1, (hg.2.1.1 _ b1).1.1, (zlx_ok hg.2.1 a1 b1).mp (h2 i j hij hj)⟩)
    (fun i j hij hj => by
      obtain ⟨a1, a2, a3⟩ := hw i (by omega)
      obtain ⟨b1, b2, b3⟩ := hw j hj
      have hlt : w i < w j := Nat.lt_of_not_le fun q => by
        have := zct_mono (P := fun p => ztp (nI s) pa pw p) q
        omega
      exact ⟨(hr.1.1 _ a1).1.1, (hr.1.1 _ b1).1.1, hr.1.2 _ _ hlt b1⟩)
    (fun i hi => by
      obtain ⟨a1, -⟩ := h1 i hi
      obtain ⟨-, a2⟩ := (h3 (e i)).mp ⟨i, hi, rfl⟩
      have hq := (ztch hg.1 a1 _).mp a2
      obtain ⟨p, p1, p2, p3, p4, p5⟩ := (hr.2.1 _ _ _ _).mpr ((hg.2.2 _ _ _ _).mp ⟨e i, a1, rfl, rfl, rfl, rfl⟩)
      have p2' : (pt (4 * p)).toInt = _ := p2
      have p3' : (pt (4 * p + 1)).toInt = _ := p3
      have p4' : (pt (4 * p + 2)).toInt = _ := p4
      have p5' : (pt (4 * p + 3)).toInt = _ := p5
      rw [← p2', ← p3', ← p4', ← p5'] at hq
      have ht := (rtch hJ h.1 h.2.2.1 hr p1 hs).mpr hq
      have hl := zct_lt (P := fun p => ztp (nI s) pa pw p) ht p1
      obtain ⟨b1, b2, b3⟩ := hw _ hl
      have he := zct_inj (P := fun p => ztp (nI s) pa pw p) b2 ht b3
      refine ⟨_, hl, ?_⟩
      show i4 _ _ _ _ = i4 _ _ _ _
      rw [he]
      unfold i4
      rw [p2', p3', p4', p5'])
    (fun j hj => by
      obtain ⟨b1, b2, b3⟩ := hw j hj
      have hq := (rtch hJ h.1 h.2.2.1 hr b1 hs).mp b2
      obtain ⟨p, p1, p2, p3, p4, p5⟩ := (hg.2.2 _ _ _ _).mpr (rW hr b1)
      rw [← p2, ← p3, ← p4, ← p5] at hq
      obtain ⟨i, i1, i2⟩ := (h3 p).mpr ⟨p1, (ztch hg.1 p1 _).mpr hq⟩
      refine ⟨i, i1, ?_⟩
      show i4 _ _ _ _ = i4 _ _ _ _
      rw [i2]
      unfold i4
      rw [p2, p3, p4, p5])
  refine ⟨hz.1, fun i p9 p hi he h9 hp ht hc => ?_⟩
  obtain ⟨a1, a2⟩ := h1 i hi
  have e1 : e i = p9 := nI_inj (by omega) (by omega) (a2.symm.trans he)
  have hi' : i < zct (fun p => ztp (nI s) pa pw p) pn := by have := hz.1; omega
  obtain ⟨b1, b2, b3⟩ := hw i hi'
  have e2 : w i = p := zct_inj (P := fun p => ztp (nI s) pa pw p) b2 ht (b3.trans hc.symm)
  have := hz.2 i hi
  have := i4_eq this
  rw [e1, e2] at this
  exact this
/-- as many points -/
theorem iPn (hg : zPg (zkn J) (mA ml) (mB ml) (mC ml) (mD ml) (ms 0) (ms 1) (ms 2) S) (hr : rPg J ms ml pn pt po pa pw) : S.1 = pn := by
  have f1 : ∀ i, ∃ p, i < S.1 → p < pn ∧ i4 (pt (4 * p)) (pt (4 * p + 1)) (pt (4 * p + 2)) (pt (4 * p + 3)) = i4 (S.2.1 i) (S.2.2.1 i) (S.2.2.2.1 i) (S.2.2.2.2.1 i) := fun i => by
    by_cases q : i < S.1
    · obtain ⟨p, p1, p2, p3, p4, p5⟩ := (hr.2.1 _ _ _ _).mpr ((hg.2.2 _ _ _ _).mp ⟨i, q, rfl, rfl, rfl, rfl⟩)
      refine ⟨p, fun _ => ⟨p1, ?_⟩⟩
      unfold i4
      exact Prod.ext p2 (Prod.ext p3 (Prod.ext p4 p5))
    · exact ⟨0, fun z => absurd z q⟩
  have f2 : ∀ i, ∃ p, i < pn → p < S.1 ∧ i4 (S.2.1 p) (S.2.2.1 p) (S.2.2.2.1 p) (S.2.2.2.2.1 p) = i4 (pt (4 * i)) (pt (4 * i + 1)) (pt (4 * i + 2)) (pt (4 * i + 3)) := fun i => by
    by_cases q : i < pn
    · obtain ⟨p, p1, p2, p3, p4, p5⟩ := (hg.2.2 _ _ _ _).mpr (rW hr q)
      refine ⟨p, fun _ => ⟨p1, ?_⟩⟩
      unfold i4
      exact Prod.ext p2 (Prod.ext p3 (Prod.ext p4 p5))
    · exact ⟨0, fun z => absurd z q⟩
  obtain ⟨w1, w1h⟩ := Classical.skolem.mp f1
  obtain ⟨w2, w2h⟩ := Classical.skolem.mp f2
  apply Nat.le_antisymm
  · refine z_php pn S.1 w1 (fun i hi => (w1h i hi).1) (fun i j hi hj e => ?_)
    have a := (w1h i hi).2
    have b := (w1h j hj).2
    rw [e, b] at a
    obtain ⟨k1, k2, k3, k4⟩ := i4_eq a
    exact (hg.2.1.2 j i hj hi (congrArg _ k1) (congrArg _ k2) (congrArg _ k3) (congrArg _ k4)).symm
  · refine z_php S.1 pn w2 (fun i hi => (w2h i hi).1) (fun i j hi hj e => ?_)
    have a := (w2h i hi).2
    have b := (w2h j hj).2
    rw [e, b] at a
    unfold i4 at a
    simp only [Prod.mk.injEq] at a
    obtain ⟨k1, k2, k3, k4⟩ := a
    rcases Nat.lt_trichotomy i j with q | q | q
    · have := hr.1.2 i j q hj
      unfold rL at this
      rw [k1, k2, k3, k4] at this
      exact (gL_ir this).elim
    · exact q
    · have := hr.1.2 j i q hi
      unfold rL at this
      rw [k1, k2, k3, k4] at this
      exact (gL_ir this).elim
end IVI
/-- inside: the same -/
theorem iIns {ml sd bs : Nat → Int32} {jc k : Nat} (hjc : jc ≤ 6) (he : bs k = sd k) {x y z : Int32} : zOnS (mA ml) (mB ml) (mC ml) (mD ml) jc (sd k) x y z ↔ rIns ml bs jc k x y z := by
  refine forall_congr' fun j => forall_congr' fun hj => ?_
  rw [he]
  show ¬ (ml (4 * j) * x + ml (4 * j + 1) * y + ml (4 * j + 2) * z - ml (4 * j + 3) * 1) = 0 ∧ (0 < (ml (4 * j) * x + ml (4 * j + 1) * y + ml (4 * j + 2) * z - ml (4 * j + 3) * 1) ↔ _) ↔ _
  rw [Int32.mul_one]
  generalize (ml (4 * j) * x + ml (4 * j + 1) * y + ml (4 * j + 2) * z - ml (4 * j + 3)) = v
  have h0 : v = 0 ↔ v.toInt = 0 := by rw [← Int32.toInt_inj]; exact Iff.rfl
  have h1 : 0 < v ↔ 0 < v.toInt := by rw [Int32.lt_iff_toInt_lt]; exact Iff.rfl
  have h2 : v < 0 ↔ v.toInt < 0 := by rw [Int32.lt_iff_toInt_lt]; exact Iff.rfl
  split
  · next q => rw [h0, h1]; constructor
              · intro r; exact r.2.mpr q
              · intro r; exact ⟨by omega, fun _ => q, fun _ => r⟩
  · next q => rw [h0, h1, h2]; constructor
              · rintro ⟨r1, r2⟩; have r3 : ¬ 0 < v.toInt := fun z => q (r2.mp z); omega
              · intro r; exact ⟨by omega, fun z => absurd z (by omega), fun z => absurd z q⟩
