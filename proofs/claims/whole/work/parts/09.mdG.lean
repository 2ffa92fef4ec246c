/-- the reference's points as rows -/
abbrev rS (pn : Nat) (pt : Nat → Int32) : zPS := (pn, fun p => pt (4 * p), fun p => pt (4 * p + 1), fun p => pt (4 * p + 2), fun p => pt (4 * p + 3), fun _ => 0, fun _ => 0)
/-- row p is before row r -/
abbrev rL (pt : Nat → Int32) (p r : Nat) : Prop := gL (pt (4 * p)).toInt (pt (4 * p + 1)).toInt (pt (4 * p + 2)).toInt (pt (4 * p + 3)).toInt (pt (4 * r)).toInt (pt (4 * r + 1)).toInt (pt (4 * r + 2)).toInt (pt (4 * r + 3)).toInt
/-- the points, sorted, within bounds, in lowest terms -/
def rOk (pn : Nat) (pt : Nat → Int32) : Prop := (∀ p, p < pn → (0 < (pt (4 * p + 3)).toInt ∧ (pt (4 * p + 3)).toInt ≤ 1296) ∧ (0 ≤ (pt (4 * p)).toInt ∧ (pt (4 * p)).toInt ≤ 10368) ∧ (0 ≤ (pt (4 * p + 1)).toInt ∧ (pt (4 * p + 1)).toInt ≤ 10368) ∧ (0 ≤ (pt (4 * p + 2)).toInt ∧ (pt (4 * p + 2)).toInt ≤ 10368) ∧ g4 (pt (4 * p)).toInt (pt (4 * p + 1)).toInt (pt (4 * p + 2)).toInt (pt (4 * p + 3)).toInt = 1) ∧ ∀ p r, p < r → r < pn → rL pt p r
theorem zOr_ok {mk pt : Nat → Int32} {r : Nat} {t : Int32} (h : zOr mk pt r t) (hq : 0 < (mk 3).toInt ∧ (mk 3).toInt ≤ 1296) (hm : ∀ c, c < 3 → 0 ≤ (mk c).toInt ∧ (mk c).toInt ≤ 10368) (kq : 0 < (pt (4 * r + 3)).toInt ∧ (pt (4 * r + 3)).toInt ≤ 1296) (km : ∀ c, c < 3 → 0 ≤ (pt (4 * r + c)).toInt ∧ (pt (4 * r + c)).toInt ≤ 10368) :
    (t < 0 ↔ gL (mk 0).toInt (mk 1).toInt (mk 2).toInt (mk 3).toInt (pt (4 * r)).toInt (pt (4 * r + 1)).toInt (pt (4 * r + 2)).toInt (pt (4 * r + 3)).toInt) ∧ (t = 0 ↔ (mk 0).toInt * (pt (4 * r + 3)).toInt = (pt (4 * r)).toInt * (mk 3).toInt ∧ (mk 1).toInt * (pt (4 * r + 3)).toInt = (pt (4 * r + 1)).toInt * (mk 3).toInt ∧ (mk 2).toInt * (pt (4 * r + 3)).toInt = (pt (4 * r + 2)).toInt * (mk 3).toInt) := by
  have z0 : zbd 0 (0 : Int32) 0 := ⟨rfl, by decide, by decide⟩
  have hb : ∀ c, c < 3 → zbd 26873856 (mk c * pt (4 * r + 3) - pt (4 * r + c) * mk 3) ((mk c).toInt * (pt (4 * r + 3)).toInt - (pt (4 * r + c)).toInt * (mk 3).toInt) := fun c hc =>
    zbd_wk (by decide) (zbd_sub (zbd_mul (zbd_self (M := 10368) (by have := (hm c hc).1; omega) (hm c hc).2) (zbd_self (M := 1296) (by omega) kq.2) (by decide)) (zbd_mul (zbd_self (M := 10368) (by have := (km c hc).1; omega) (km c hc).2) (zbd_self (M := 1296) (by omega) hq.2) (by decide)) (by decide))
  have e0 : ∀ c, (hc : c < 3) → (mk c * pt (4 * r + 3) - pt (4 * r + c) * mk 3 = 0 ↔ (mk c).toInt * (pt (4 * r + 3)).toInt = (pt (4 * r + c)).toInt * (mk 3).toInt) := fun c hc => by rw [zbd_eq (hb c hc) z0]; omega
  have el : ∀ c, (hc : c < 3) → (mk c * pt (4 * r + 3) - pt (4 * r + c) * mk 3 < 0 ↔ (mk c).toInt * (pt (4 * r + 3)).toInt < (pt (4 * r + c)).toInt * (mk 3).toInt) := fun c hc => by rw [zbd_lt (hb c hc) z0]; omega
  have a0 := e0 0 (by decide); have a1 := e0 1 (by decide); have a2 := e0 2 (by decide)
  have b0 := el 0 (by decide); have b1 := el 1 (by decide); have b2 := el 2 (by decide)
  simp only [Nat.add_zero] at a0 b0
  unfold gL
  rcases h with ⟨k, h1, h2, h3, h4⟩ | ⟨rfl, h⟩
  · have hk : k = 0 ∨ k = 1 ∨ k = 2 := by omega
    have ht : (t < 0 ↔ mk k * pt (4 * r + 3) - pt (4 * r + k) * mk 3 < 0) ∧ ¬ t = 0 := by
      rw [h4]
      split
      · next hh => exact ⟨⟨fun _ => hh, fun _ => by decide⟩, by decide⟩
      · next hh => exact ⟨⟨fun q => absurd q (by decide), fun q => absurd q hh⟩, by decide⟩
    rcases hk with rfl | rfl | rfl
    · rw [show (4 * r + 0) = 4 * r from rfl] at ht h3
      rw [a0] at h3
      rw [b0] at ht
      constructor
      · rw [ht.1]; omega
      · constructor
        · intro q; exact absurd q ht.2
        · intro q; exact absurd q.1 h3
    · have p0 := h2 0 (by decide)
      rw [show (4 * r + 0) = 4 * r from rfl, a0] at p0
      rw [a1] at h3
      rw [b1] at ht
      constructor
      · rw [ht.1]; omega
      · constructor
        · intro q; exact absurd q ht.2
        · intro q; exact absurd q.2.1 h3
    · have p0 := h2 0 (by decide)
      have p1 := h2 1 (by decide)
      rw [show (4 * r + 0) = 4 * r from rfl, a0] at p0
      rw [a1] at p1
      rw [a2] at h3
      rw [b2] at ht
      constructor
      · rw [ht.1]; omega
      · constructor
        · intro q; exact absurd q ht.2
        · intro q; exact absurd q.2.2 h3
  · have p0 := h 0 (by decide); have p1 := h 1 (by decide); have p2 := h 2 (by decide)
    rw [show (4 * r + 0) = 4 * r from rfl, a0] at p0
    rw [a1] at p1
    rw [a2] at p2
    constructor
    · constructor
      · intro q; exact absurd q (by decide)
      · intro q; omega
    · exact ⟨fun _ => ⟨p0, p1, p2⟩, fun _ => rfl⟩
theorem zins_lo {mk pt : Nat → Int32} {a pn x : Nat} (h : x < 4 * a) : zins mk pt a pn x = pt x := if_pos h
theorem zins_at {mk pt : Nat → Int32} {a pn c : Nat} (h : c < 4) : zins mk pt a pn (4 * a + c) = mk c := by
  unfold zins
  rw [if_neg (by omega), if_pos (by omega), Nat.add_sub_cancel_left]
theorem zins_hi {mk pt : Nat → Int32} {a pn x : Nat} (h : 4 * a ≤ x) (h2 : x < 4 * pn) : zins mk pt a pn (x + 4) = pt x := by
  unfold zins
  rw [if_neg (by omega), if_neg (by omega), if_pos (by omega), Nat.add_sub_cancel]
theorem rS_bd {pn : Nat} {pt : Nat → Int32} (h : rOk pn pt) {r : Nat} (hr : r < pn) : (0 < (pt (4 * r + 3)).toInt ∧ (pt (4 * r + 3)).toInt ≤ 1296) ∧ ∀ c, c < 3 → 0 ≤ (pt (4 * r + c)).toInt ∧ (pt (4 * r + c)).toInt ≤ 10368 := by
  obtain ⟨h1, h2, h3, h4, -⟩ := h.1 r hr
  refine ⟨h1, fun c hc => ?_⟩
  have : c = 0 ∨ c = 1 ∨ c = 2 := by omega
  rcases this with rfl | rfl | rfl
  · exact h2
  · exact h3
  · exact h4
/-- make: the points of three planes more -/
theorem zMk_ok {ms ml pt pt' : Nat → Int32} {i j k pn pn' : Nat} (hb : zpb (mA ml) (mB ml) (mC ml) (mD ml)) (hi : i < 12) (hj : j < 12) (hk : k < 12) (hs : ∀ c, c < 3 → zsz (ms c)) (hR : rOk pn pt) (h : zMk ms ml i j k pn pt pn' pt') :
    rOk pn' pt' ∧ pn' ≤ pn + 1 ∧ ∀ a b c d, zmm (rS pn' pt') a b c d ↔ zmm (rS pn pt) a b c d ∨ gT (iI (mA ml)) (iI (mB ml)) (iI (mC ml)) (iI (mD ml)) (ms 0).toInt (ms 1).toInt (ms 2).toInt i j k a b c d := by
  rcases h with ⟨rfl, rfl, h⟩ | ⟨mk, hT, hU, a, hap, h1, h2, h3⟩
  · exact ⟨hR, Nat.le_succ _, fun a b c d => ⟨Or.inl, fun q => q.elim id (fun z => absurd z (h a b c d))⟩⟩
  · obtain ⟨bq, bx, by_, bz⟩ := gT_bd hb hk hi hj (hs 0 (by decide)) (hs 1 (by decide)) (hs 2 (by decide)) hT
    have hm : ∀ c, c < 3 → 0 ≤ (mk c).toInt ∧ (mk c).toInt ≤ 10368 := fun c hc => by
      have : c = 0 ∨ c = 1 ∨ c = 2 := by omega
      rcases this with rfl | rfl | rfl
      · exact bx
      · exact by_
      · exact bz
    have hq := bq.1
    rcases h3 with ⟨rfl, rfl, b, rfl, h3⟩ | ⟨h3, rfl, rfl⟩
    · refine ⟨hR, Nat.le_succ _, fun x y z w => ⟨Or.inl, fun q => q.elim id (fun q => ?_)⟩⟩
      obtain ⟨rfl, rfl, rfl, rfl⟩ := hU _ _ _ _ q
      obtain ⟨k1, k2⟩ := rS_bd hR (show b < pn' by omega)
      obtain ⟨e1, e2, e3⟩ := (zOr_ok h3 bq hm k1 k2).2.mp rfl
      obtain ⟨f1, f2, f3, f4⟩ := g_red hq k1.1 hT.2.1 (hR.1 b (by omega)).2.2.2.2 e1 e2 e3
      exact ⟨b, show b < pn' by omega, f1.symm, f2.symm, f3.symm, f4.symm⟩
    · -- before a: below; from a on: above
      have lo : ∀ r, r < a → gL (pt (4 * r)).toInt (pt (4 * r + 1)).toInt (pt (4 * r + 2)).toInt (pt (4 * r + 3)).toInt (mk 0).toInt (mk 1).toInt (mk 2).toInt (mk 3).toInt := by
        intro r hr
        obtain ⟨b, rfl⟩ : ∃ b, a = b + 1 := ⟨a - 1, by omega⟩
        obtain ⟨t, o1, o2⟩ := h2 b rfl
        obtain ⟨k1, k2⟩ := rS_bd hR (show b < pn by omega)
        have o3 := zOr_ok o1 bq hm k1 k2
        have hb' : gL (pt (4 * b)).toInt (pt (4 * b + 1)).toInt (pt (4 * b + 2)).toInt (pt (4 * b + 3)).toInt (mk 0).toInt (mk 1).toInt (mk 2).toInt (mk 3).toInt := by
          rcases gL_tt (fun q => o2 (o3.1.mpr q)) with q | q
          · exact q
          · exact absurd (o3.2.mpr q ▸ o1) (h3 b rfl)
        rcases Nat.eq_or_lt_of_le (show r ≤ b by omega) with e | e
        · rw [e]; exact hb'
        · exact gL_tr (hR.1 r (by omega)).1.1 k1.1 hq (hR.2 r b e (by omega)) hb'
      have hi' : ∀ r, a ≤ r → r < pn → gL (mk 0).toInt (mk 1).toInt (mk 2).toInt (mk 3).toInt (pt (4 * r)).toInt (pt (4 * r + 1)).toInt (pt (4 * r + 2)).toInt (pt (4 * r + 3)).toInt := by
        intro r e1 e2
        obtain ⟨t, o1, o2⟩ := h1 r e1 e2
        obtain ⟨k1, k2⟩ := rS_bd hR e2
        exact (zOr_ok o1 bq hm k1 k2).1.mp o2
      -- rows of the new list
      have rlo : ∀ r c, r < a → c < 4 → zins mk pt a pn (4 * r + c) = pt (4 * r + c) := fun r c e1 e2 => zins_lo (by omega)
      have rhi : ∀ r c, a ≤ r → r < pn → c < 4 → zins mk pt a pn (4 * (r + 1) + c) = pt (4 * r + c) := fun r c e1 e2 e3 => by
        rw [show 4 * (r + 1) + c = (4 * r + c) + 4 by omega]
        exact zins_hi (by omega) (by omega)
      have rat : ∀ c, c < 4 → zins mk pt a pn (4 * a + c) = mk c := fun c e => zins_at e
      have q0 : ∀ r, r < a → zins mk pt a pn (4 * r) = pt (4 * r) ∧ zins mk pt a pn (4 * r + 1) = pt (4 * r + 1) ∧ zins mk pt a pn (4 * r + 2) = pt (4 * r + 2) ∧ zins mk pt a pn (4 * r + 3) = pt (4 * r + 3) := fun r e => ⟨rlo r 0 e (by decide), rlo r 1 e (by decide), rlo r 2 e (by decide), rlo r 3 e (by decide)⟩
      have q1 : ∀ r, a ≤ r → r < pn → zins mk pt a pn (4 * (r + 1)) = pt (4 * r) ∧ zins mk pt a pn (4 * (r + 1) + 1) = pt (4 * r + 1) ∧ zins mk pt a pn (4 * (r + 1) + 2) = pt (4 * r + 2) ∧ zins mk pt a pn (4 * (r + 1) + 3) = pt (4 * r + 3) := fun r e1 e2 => ⟨rhi r 0 e1 e2 (by decide), rhi r 1 e1 e2 (by decide), rhi r 2 e1 e2 (by decide), rhi r 3 e1 e2 (by decide)⟩
      have q2 : zins mk pt a pn (4 * a) = mk 0 ∧ zins mk pt a pn (4 * a + 1) = mk 1 ∧ zins mk pt a pn (4 * a + 2) = mk 2 ∧ zins mk pt a pn (4 * a + 3) = mk 3 := ⟨rat 0 (by decide), rat 1 (by decide), rat 2 (by decide), rat 3 (by decide)⟩
      obtain ⟨q20, q21, q22, q23⟩ := q2
      have c3 : ∀ r, r < pn + 1 → (r < a) ∨ (r = a) ∨ ∃ s, r = s + 1 ∧ a ≤ s ∧ s < pn := by
        intro r hr
        rcases Nat.lt_trichotomy r a with e | e | e
        · exact Or.inl e
        · exact Or.inr (Or.inl e)
        · exact Or.inr (Or.inr ⟨r - 1, by omega, by omega, by omega⟩)
      refine ⟨⟨fun r hr => ?_, fun p r hpr hr => ?_⟩, Nat.le_refl _, fun x y z w => ⟨?_, ?_⟩⟩
      · rcases c3 r hr with e | rfl | ⟨s, rfl, e1, e2⟩
        · obtain ⟨w0, w1, w2, w3⟩ := q0 r e
          rw [w0, w1, w2, w3]
          exact hR.1 r (by omega)
        · rw [q20, q21, q22, q23]
          exact ⟨bq, bx, by_, bz, hT.2.1⟩
        · obtain ⟨w0, w1, w2, w3⟩ := q1 s e1 e2
          rw [w0, w1, w2, w3]
          exact hR.1 s e2
      · show gL _ _ _ _ _ _ _ _
        rcases c3 r hr with e | rfl | ⟨s, rfl, e1, e2⟩
        · obtain ⟨w0, w1, w2, w3⟩ := q0 r e
          obtain ⟨u0, u1, u2, u3⟩ := q0 p (by omega)
          rw [w0, w1, w2, w3, u0, u1, u2, u3]
          exact hR.2 p r hpr (by omega)
        · obtain ⟨u0, u1, u2, u3⟩ := q0 p hpr
          rw [q20, q21, q22, q23, u0, u1, u2, u3]
          exact lo p hpr
        · obtain ⟨w0, w1, w2, w3⟩ := q1 s e1 e2
          rw [w0, w1, w2, w3]
          rcases c3 p (by omega) with e | rfl | ⟨s', rfl, e1', e2'⟩
          · obtain ⟨u0, u1, u2, u3⟩ := q0 p e
            rw [u0, u1, u2, u3]
            exact hR.2 p s (by omega) e2
          · rw [q20, q21, q22, q23]
            exact hi' s e1 e2
          · obtain ⟨u0, u1, u2, u3⟩ := q1 s' e1' e2'
            rw [u0, u1, u2, u3]
            exact hR.2 s' s (by omega) e2
      · rintro ⟨r, hr, m1, m2, m3, m4⟩
        simp only at m1 m2 m3 m4
        rcases c3 r hr with e | rfl | ⟨s, rfl, e1, e2⟩
        · obtain ⟨w0, w1, w2, w3⟩ := q0 r e
          rw [w0] at m1; rw [w1] at m2; rw [w2] at m3; rw [w3] at m4
          exact Or.inl ⟨r, by simp only; omega, m1, m2, m3, m4⟩
        · rw [q20] at m1; rw [q21] at m2; rw [q22] at m3; rw [q23] at m4
          subst m1 m2 m3 m4
          exact Or.inr hT
        · obtain ⟨w0, w1, w2, w3⟩ := q1 s e1 e2
          rw [w0] at m1; rw [w1] at m2; rw [w2] at m3; rw [w3] at m4
          exact Or.inl ⟨s, e2, m1, m2, m3, m4⟩
      · rintro (⟨r, hr, m1, m2, m3, m4⟩ | h)
        · simp only at m1 m2 m3 m4
          have hr' : r < pn := hr
          rcases Nat.lt_or_ge r a with e | e
          · obtain ⟨w0, w1, w2, w3⟩ := q0 r e
            exact ⟨r, by simp only; omega, by simp only; rw [w0]; exact m1, by simp only; rw [w1]; exact m2, by simp only; rw [w2]; exact m3, by simp only; rw [w3]; exact m4⟩
          · obtain ⟨w0, w1, w2, w3⟩ := q1 r e hr'
            exact ⟨r + 1, by simp only; omega, by simp only; rw [w0]; exact m1, by simp only; rw [w1]; exact m2, by simp only; rw [w2]; exact m3, by simp only; rw [w3]; exact m4⟩
        · obtain ⟨rfl, rfl, rfl, rfl⟩ := hU _ _ _ _ h
          exact ⟨a, by simp only; omega, by simp only; rw [q20], by simp only; rw [q21], by simp only; rw [q22], by simp only; rw [q23]⟩
