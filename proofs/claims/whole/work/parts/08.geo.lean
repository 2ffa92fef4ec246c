def gh (A B C D : Nat → Int) (g : Nat) (x y z q : Int) : Int := A g * x + B g * y + C g * z - D g * q
def gn (A B C : Nat → Int) (g : Nat) (u v w : Int) : Int := A g * u + B g * v + C g * w
def gQ (kn : Nat → Prop) (A B C D σ : Nat → Int) (x y z q : Int) : Prop := ∀ g, g < 12 → kn g → 0 ≤ σ g * gh A B C D g x y z q
/-- along each direction the cell ends -/
def gB (kn : Nat → Prop) (A B C σ : Nat → Int) : Prop := ∀ u v w : Int, ¬ (u = 0 ∧ v = 0 ∧ w = 0) → ∃ g, g < 12 ∧ kn g ∧ σ g * gn A B C g u v w < 0
theorem gh_mv (A B C D : Nat → Int) (g : Nat) (k t x y z q u v w : Int) : gh A B C D g (k * x + t * u) (k * y + t * v) (k * z + t * w) (k * q) = k * gh A B C D g x y z q + t * gn A B C g u v w := by
  simp only [gh, gn]; grind
theorem g_min (n : Nat) (p : Nat → Prop) (a b : Nat → Int) (hex : ∃ i, i < n ∧ p i ∧ 0 < b i) : ∃ i, i < n ∧ p i ∧ 0 < b i ∧ ∀ j, j < n → p j → 0 < b j → a i * b j ≤ a j * b i := by
  induction n with
  | zero => obtain ⟨i, hi, _⟩ := hex; exact absurd hi (Nat.not_lt_zero _)
  | succ n ih =>
    by_cases h : ∃ i, i < n ∧ p i ∧ 0 < b i
    · obtain ⟨i, hi, hp, hb, hm⟩ := ih h
      by_cases hn : p n ∧ 0 < b n ∧ a n * b i < a i * b n
      · obtain ⟨h1, h2, h3⟩ := hn
        refine ⟨n, by omega, h1, h2, fun j hj hpj hbj => ?_⟩
        rcases Nat.lt_succ_iff_lt_or_eq.mp hj with h4 | rfl
        · have h5 := hm j h4 hpj hbj
          have h6 : a n * b i * b j ≤ a i * b n * b j := Int.mul_le_mul_of_nonneg_right (Int.le_of_lt h3) (Int.le_of_lt hbj)
          have h7 : a i * b j * b n ≤ a j * b i * b n := Int.mul_le_mul_of_nonneg_right h5 (Int.le_of_lt h2)
          have h8 : a n * b j * b i ≤ a j * b n * b i := by
            have e1 : a n * b i * b j = a n * b j * b i := by grind
            have e2 : a i * b n * b j = a i * b j * b n := by grind
            have e3 : a j * b i * b n = a j * b n * b i := by grind
            omega
          exact Int.le_of_mul_le_mul_right h8 hb
        · exact Int.le_refl _
      · refine ⟨i, by omega, hp, hb, fun j hj hpj hbj => ?_⟩
        rcases Nat.lt_succ_iff_lt_or_eq.mp hj with h4 | rfl
        · exact hm j h4 hpj hbj
        · exact Int.not_lt.mp (fun h5 => hn ⟨hpj, hbj, h5⟩)
    · obtain ⟨i, hi, hp, hb⟩ := hex
      have hin : i = n := by
        rcases Nat.lt_succ_iff_lt_or_eq.mp hi with h4 | h4
        · exact absurd ⟨i, h4, hp, hb⟩ h
        · exact h4
      subst hin
      refine ⟨i, by omega, hp, hb, fun j hj hpj hbj => ?_⟩
      rcases Nat.lt_succ_iff_lt_or_eq.mp hj with h4 | rfl
      · exact absurd ⟨j, h4, hpj, hbj⟩ h
      · exact Int.le_refl _
/-- along a direction up to the first plane -/
theorem g_step {kn : Nat → Prop} {A B C D σ : Nat → Int} (hb : gB kn A B C σ) {x y z q u v w : Int} (hQ : gQ kn A B C D σ x y z q) (hU : ¬ (u = 0 ∧ v = 0 ∧ w = 0)) :
    ∃ g k t, g < 12 ∧ kn g ∧ 0 < k ∧ 0 ≤ t ∧ gn A B C g u v w ≠ 0 ∧ σ g * gn A B C g u v w < 0 ∧ t = σ g * gh A B C D g x y z q ∧ k * gh A B C D g x y z q + t * gn A B C g u v w = 0 ∧ gQ kn A B C D σ (k * x + t * u) (k * y + t * v) (k * z + t * w) (k * q) := by
  obtain ⟨g0, h0, hk0, hl0⟩ := hb u v w hU
  obtain ⟨g, hg, hkg, hbg, hm⟩ := g_min 12 kn (fun g => σ g * gh A B C D g x y z q) (fun g => -(σ g * gn A B C g u v w)) ⟨g0, h0, hk0, by omega⟩
  refine ⟨g, -(σ g * gn A B C g u v w), σ g * gh A B C D g x y z q, hg, hkg, hbg, hQ g hg hkg, fun e => ?_, by omega, rfl, by grind, fun j hj hkj => ?_⟩
  · rw [e] at hbg; simp at hbg
  · rw [gh_mv]
    have h1 := hQ j hj hkj
    have h2 := hQ g hg hkg
    have e : σ j * (-(σ g * gn A B C g u v w) * gh A B C D j x y z q + σ g * gh A B C D g x y z q * gn A B C j u v w) = -(σ g * gn A B C g u v w) * (σ j * gh A B C D j x y z q) + (σ g * gh A B C D g x y z q) * (σ j * gn A B C j u v w) := by grind
    rw [e]
    by_cases h3 : 0 ≤ σ j * gn A B C j u v w
    · have h4 := Int.mul_nonneg (Int.le_of_lt hbg) h1
      have h5 := Int.mul_nonneg h2 h3
      omega
    · have h4 := hm j hj hkj (by omega)
      have e2 : σ g * gh A B C D g x y z q * -(σ j * gn A B C j u v w) = -(σ g * gh A B C D g x y z q * (σ j * gn A B C j u v w)) := by grind
      have e3 : σ j * gh A B C D j x y z q * -(σ g * gn A B C g u v w) = -(σ g * gn A B C g u v w) * (σ j * gh A B C D j x y z q) := by grind
      simp only [e2, e3] at h4
      omega
theorem g_sg {kn : Nat → Prop} {A B C D σ : Nat → Int} (hb : gB kn A B C σ) {x y z q u v w l1 l2 l3 l4 : Int} (hq : 0 < q) (hQ : gQ kn A B C D σ x y z q) (hU : ¬ (u = 0 ∧ v = 0 ∧ w = 0)) (hL : 0 < l1 * x + l2 * y + l3 * z + l4 * q) (hl : 0 ≤ l1 * u + l2 * v + l3 * w) (ht : ∀ g, g < 12 → kn g → gh A B C D g x y z q = 0 → gn A B C g u v w = 0) :
    ∃ x' y' z' q' g, 0 < q' ∧ gQ kn A B C D σ x' y' z' q' ∧ g < 12 ∧ kn g ∧ gn A B C g u v w ≠ 0 ∧ gh A B C D g x' y' z' q' = 0 ∧ 0 < l1 * x' + l2 * y' + l3 * z' + l4 * q' ∧ ∀ g, g < 12 → kn g → gh A B C D g x y z q = 0 → gh A B C D g x' y' z' q' = 0 := by
  obtain ⟨g, k, t, hg, hkg, hk, h0, hn, -, -, he, hQ'⟩ := g_step hb hQ hU
  refine ⟨_, _, _, _, g, Int.mul_pos hk hq, hQ', hg, hkg, hn, by rw [gh_mv]; exact he, ?_, fun j hj hkj h1 => by rw [gh_mv, h1, ht j hj hkj h1]; simp⟩
  have h1 := Int.mul_pos hk hL
  have h2 := Int.mul_nonneg h0 hl
  have e : l1 * (k * x + t * u) + l2 * (k * y + t * v) + l3 * (k * z + t * w) + l4 * (k * q) = k * (l1 * x + l2 * y + l3 * z + l4 * q) + t * (l1 * u + l2 * v + l3 * w) := by grind
  omega
theorem g_mv {kn : Nat → Prop} {A B C D σ : Nat → Int} (hb : gB kn A B C σ) {x y z q u v w l1 l2 l3 l4 : Int} (hq : 0 < q) (hQ : gQ kn A B C D σ x y z q) (hU : ¬ (u = 0 ∧ v = 0 ∧ w = 0)) (hL : 0 < l1 * x + l2 * y + l3 * z + l4 * q) (ht : ∀ g, g < 12 → kn g → gh A B C D g x y z q = 0 → gn A B C g u v w = 0) :
    ∃ x' y' z' q' g, 0 < q' ∧ gQ kn A B C D σ x' y' z' q' ∧ g < 12 ∧ kn g ∧ gn A B C g u v w ≠ 0 ∧ gh A B C D g x' y' z' q' = 0 ∧ 0 < l1 * x' + l2 * y' + l3 * z' + l4 * q' ∧ ∀ g, g < 12 → kn g → gh A B C D g x y z q = 0 → gh A B C D g x' y' z' q' = 0 := by
  by_cases hl : 0 ≤ l1 * u + l2 * v + l3 * w
  · exact g_sg hb hq hQ hU hL hl ht
  · have e : ∀ g, gn A B C g (-u) (-v) (-w) = - gn A B C g u v w := fun g => by simp only [gn]; grind
    have e2 : l1 * -u + l2 * -v + l3 * -w = -(l1 * u + l2 * v + l3 * w) := by grind
    obtain ⟨x', y', z', q', g, a1, a2, a3, a4, a5, a6⟩ := g_sg (u := -u) (v := -v) (w := -w) hb hq hQ (by omega) hL (by omega) (fun g h1 h2 h3 => by rw [e, ht g h1 h2 h3]; rfl)
    exact ⟨x', y', z', q', g, a1, a2, a3, a4, fun h => a5 (by rw [e, h]; rfl), a6⟩
def gx1 (B C : Nat → Int) (i j : Nat) : Int := B i * C j - C i * B j
def gx2 (A C : Nat → Int) (i j : Nat) : Int := C i * A j - A i * C j
def gx3 (A B : Nat → Int) (i j : Nat) : Int := A i * B j - B i * A j
def gd (A B C : Nat → Int) (i j k : Nat) : Int := gn A B C k (gx1 B C i j) (gx2 A C i j) (gx3 A B i j)
theorem g_sq {a b c : Int} (h : a * a + b * b + c * c = 0) : a = 0 ∧ b = 0 ∧ c = 0 := by
  have h1 : 0 ≤ a * a := by rcases Int.le_total 0 a with h | h; exact Int.mul_nonneg h h; exact Int.mul_nonneg_of_nonpos_of_nonpos h h
  have h2 : 0 ≤ b * b := by rcases Int.le_total 0 b with h | h; exact Int.mul_nonneg h h; exact Int.mul_nonneg_of_nonpos_of_nonpos h h
  have h3 : 0 ≤ c * c := by rcases Int.le_total 0 c with h | h; exact Int.mul_nonneg h h; exact Int.mul_nonneg_of_nonpos_of_nonpos h h
  refine ⟨?_, ?_, ?_⟩
  · exact (Int.mul_eq_zero.mp (show a * a = 0 by omega)).elim id id
  · exact (Int.mul_eq_zero.mp (show b * b = 0 by omega)).elim id id
  · exact (Int.mul_eq_zero.mp (show c * c = 0 by omega)).elim id id
/-- what is upright on one of two parallel planes is so on the other -/
theorem g_par {A B C : Nat → Int} {i j : Nat} {u v w : Int} (hn : ¬ (A i = 0 ∧ B i = 0 ∧ C i = 0)) (hu : gn A B C i u v w = 0) (h1 : gx1 B C i j = 0) (h2 : gx2 A C i j = 0) (h3 : gx3 A B i j = 0) : gn A B C j u v w = 0 := by
  simp only [gn, gx1, gx2, gx3] at *
  have e : (A i * A i + B i * B i + C i * C i) * (A j * u + B j * v + C j * w) = 0 := by grind
  rcases Int.mul_eq_zero.mp e with h | h
  · exact absurd (g_sq h) hn
  · exact h
/-- a direction in a plane -/
theorem g_in (a b c : Int) : ∃ u v w : Int, ¬ (u = 0 ∧ v = 0 ∧ w = 0) ∧ a * u + b * v + c * w = 0 := by
  by_cases h : a = 0 ∧ b = 0
  · exact ⟨1, 0, 0, by decide, by grind⟩
  · exact ⟨b, -a, 0, by omega, by grind⟩
/-- from a point of a cell that is on a plane to a corner on it -/
theorem g_corner {kn : Nat → Prop} {A B C D σ : Nat → Int} (hb : gB kn A B C σ) {x y z q l1 l2 l3 l4 : Int} {i : Nat} (hq : 0 < q) (hQ : gQ kn A B C D σ x y z q) (hi : i < 12) (hki : kn i) (hn : ¬ (A i = 0 ∧ B i = 0 ∧ C i = 0)) (h0 : gh A B C D i x y z q = 0) (hL : 0 < l1 * x + l2 * y + l3 * z + l4 * q) :
    ∃ x' y' z' q' j k, 0 < q' ∧ gQ kn A B C D σ x' y' z' q' ∧ j < 12 ∧ kn j ∧ k < 12 ∧ kn k ∧ gd A B C i j k ≠ 0 ∧ gh A B C D i x' y' z' q' = 0 ∧ gh A B C D j x' y' z' q' = 0 ∧ gh A B C D k x' y' z' q' = 0 ∧ 0 < l1 * x' + l2 * y' + l3 * z' + l4 * q' := by
  -- a second plane
  have hA : ∃ x' y' z' q' j, 0 < q' ∧ gQ kn A B C D σ x' y' z' q' ∧ j < 12 ∧ kn j ∧ ¬ (gx1 B C i j = 0 ∧ gx2 A C i j = 0 ∧ gx3 A B i j = 0) ∧ gh A B C D i x' y' z' q' = 0 ∧ gh A B C D j x' y' z' q' = 0 ∧ 0 < l1 * x' + l2 * y' + l3 * z' + l4 * q' := by
    by_cases h : ∃ j, j < 12 ∧ kn j ∧ gh A B C D j x y z q = 0 ∧ ¬ (gx1 B C i j = 0 ∧ gx2 A C i j = 0 ∧ gx3 A B i j = 0)
    · obtain ⟨j, a1, a2, a3, a4⟩ := h
      exact ⟨x, y, z, q, j, hq, hQ, a1, a2, a4, h0, a3, hL⟩
    · obtain ⟨u, v, w, hU, hu⟩ := g_in (A i) (B i) (C i)
      obtain ⟨x', y', z', q', g, a1, a2, a3, a4, a5, a6, a7, a8⟩ := g_mv hb hq hQ hU hL (fun g b1 b2 b3 => by
        by_cases h4 : gx1 B C i g = 0 ∧ gx2 A C i g = 0 ∧ gx3 A B i g = 0
        · exact g_par hn hu h4.1 h4.2.1 h4.2.2
        · exact absurd ⟨g, b1, b2, b3, h4⟩ h)
      exact ⟨x', y', z', q', g, a1, a2, a3, a4, fun h4 => a5 (g_par hn hu h4.1 h4.2.1 h4.2.2), a8 i hi hki h0, a6, a7⟩
  obtain ⟨x, y, z, q, j, hq, hQ, hj, hkj, hx, h0, h1, hL⟩ := hA
  by_cases h : ∃ k, k < 12 ∧ kn k ∧ gh A B C D k x y z q = 0 ∧ gd A B C i j k ≠ 0
  · obtain ⟨k, a1, a2, a3, a4⟩ := h
    exact ⟨x, y, z, q, j, k, hq, hQ, hj, hkj, a1, a2, a4, h0, h1, a3, hL⟩
  · obtain ⟨x', y', z', q', g, a1, a2, a3, a4, a5, a6, a7, a8⟩ := g_mv hb hq hQ hx hL (fun g b1 b2 b3 => Decidable.byContradiction fun h5 => h ⟨g, b1, b2, b3, h5⟩)
    exact ⟨x', y', z', q', j, g, a1, a2, hj, hkj, a3, a4, a5, a8 i hi hki h0, a8 j hj hkj h1, a6, a7⟩
/-- the points: where three planes meet in the box, each once -/
def gV (kn : Nat → Prop) (A B C D : Nat → Int) (sx sy sz : Int) (n : Nat) (px py pz pq : Nat → Int) : Prop := (∀ i, i < n → 0 < pq i) ∧ (∀ i, i < n → ∃ a b c, a < 12 ∧ b < 12 ∧ c < 12 ∧ kn a ∧ kn b ∧ kn c ∧ gd A B C a b c ≠ 0 ∧ gh A B C D a (px i) (py i) (pz i) (pq i) = 0 ∧ gh A B C D b (px i) (py i) (pz i) (pq i) = 0 ∧ gh A B C D c (px i) (py i) (pz i) (pq i) = 0) ∧ (∀ a b c, a < 12 → b < 12 → c < 12 → kn a → kn b → kn c → gd A B C a b c ≠ 0 → ∀ x y z q : Int, 0 < q → gh A B C D a x y z q = 0 → gh A B C D b x y z q = 0 → gh A B C D c x y z q = 0 → (0 ≤ x ∧ x ≤ sx * q) → (0 ≤ y ∧ y ≤ sy * q) → (0 ≤ z ∧ z ≤ sz * q) → ∃ i, i < n ∧ px i * q = x * pq i ∧ py i * q = y * pq i ∧ pz i * q = z * pq i) ∧ (∀ i j, i < n → j < n → px i * pq j = px j * pq i → py i * pq j = py j * pq i → pz i * pq j = pz j * pq i → i = j)
theorem gV.pos {kn : Nat → Prop} {A B C D : Nat → Int} {sx sy sz : Int} {n : Nat} {px py pz pq : Nat → Int} (h : gV kn A B C D sx sy sz n px py pz pq) : ∀ i, i < n → 0 < pq i := h.1
theorem gV.snd {kn : Nat → Prop} {A B C D : Nat → Int} {sx sy sz : Int} {n : Nat} {px py pz pq : Nat → Int} (h : gV kn A B C D sx sy sz n px py pz pq) : ∀ i, i < n → ∃ a b c, a < 12 ∧ b < 12 ∧ c < 12 ∧ kn a ∧ kn b ∧ kn c ∧ gd A B C a b c ≠ 0 ∧ gh A B C D a (px i) (py i) (pz i) (pq i) = 0 ∧ gh A B C D b (px i) (py i) (pz i) (pq i) = 0 ∧ gh A B C D c (px i) (py i) (pz i) (pq i) = 0 := h.2.1
theorem gV.cmp {kn : Nat → Prop} {A B C D : Nat → Int} {sx sy sz : Int} {n : Nat} {px py pz pq : Nat → Int} (h : gV kn A B C D sx sy sz n px py pz pq) : ∀ a b c, a < 12 → b < 12 → c < 12 → kn a → kn b → kn c → gd A B C a b c ≠ 0 → ∀ x y z q : Int, 0 < q → gh A B C D a x y z q = 0 → gh A B C D b x y z q = 0 → gh A B C D c x y z q = 0 → (0 ≤ x ∧ x ≤ sx * q) → (0 ≤ y ∧ y ≤ sy * q) → (0 ≤ z ∧ z ≤ sz * q) → ∃ i, i < n ∧ px i * q = x * pq i ∧ py i * q = y * pq i ∧ pz i * q = z * pq i := h.2.2.1
theorem gV.dst {kn : Nat → Prop} {A B C D : Nat → Int} {sx sy sz : Int} {n : Nat} {px py pz pq : Nat → Int} (h : gV kn A B C D sx sy sz n px py pz pq) : ∀ i j, i < n → j < n → px i * pq j = px j * pq i → py i * pq j = py j * pq i → pz i * pq j = pz j * pq i → i = j := h.2.2.2
/-- the planes: each upright on something, no two the same; the box among them -/
def gP (kn : Nat → Prop) (A B C D : Nat → Int) (sx sy sz : Int) : Prop := (∀ g, g < 12 → kn g → ¬ (A g = 0 ∧ B g = 0 ∧ C g = 0)) ∧ (∀ f g, f < 12 → g < 12 → kn f → kn g → f ≠ g → ∀ x y z q : Int, 0 < q → gh A B C D f x y z q = 0 → gh A B C D g x y z q = 0 → ¬ (gx1 B C f g = 0 ∧ gx2 A C f g = 0 ∧ gx3 A B f g = 0)) ∧ (kn 6 ∧ kn 7 ∧ kn 8 ∧ kn 9 ∧ kn 10 ∧ kn 11) ∧ (A 6 = 1 ∧ B 6 = 0 ∧ C 6 = 0 ∧ D 6 = 0) ∧ (A 7 = 1 ∧ B 7 = 0 ∧ C 7 = 0 ∧ D 7 = sx) ∧ (A 8 = 0 ∧ B 8 = 1 ∧ C 8 = 0 ∧ D 8 = 0) ∧ (A 9 = 0 ∧ B 9 = 1 ∧ C 9 = 0 ∧ D 9 = sy) ∧ (A 10 = 0 ∧ B 10 = 0 ∧ C 10 = 1 ∧ D 10 = 0) ∧ (A 11 = 0 ∧ B 11 = 0 ∧ C 11 = 1 ∧ D 11 = sz)
theorem gP.nz {kn : Nat → Prop} {A B C D : Nat → Int} {sx sy sz : Int} (h : gP kn A B C D sx sy sz) : ∀ g, g < 12 → kn g → ¬ (A g = 0 ∧ B g = 0 ∧ C g = 0) := h.1
theorem gP.ds {kn : Nat → Prop} {A B C D : Nat → Int} {sx sy sz : Int} (h : gP kn A B C D sx sy sz) : ∀ f g, f < 12 → g < 12 → kn f → kn g → f ≠ g → ∀ x y z q : Int, 0 < q → gh A B C D f x y z q = 0 → gh A B C D g x y z q = 0 → ¬ (gx1 B C f g = 0 ∧ gx2 A C f g = 0 ∧ gx3 A B f g = 0) := h.2.1
theorem gP.bx {kn : Nat → Prop} {A B C D : Nat → Int} {sx sy sz : Int} (h : gP kn A B C D sx sy sz) : kn 6 ∧ kn 7 ∧ kn 8 ∧ kn 9 ∧ kn 10 ∧ kn 11 := h.2.2.1
theorem gP.b6 {kn : Nat → Prop} {A B C D : Nat → Int} {sx sy sz : Int} (h : gP kn A B C D sx sy sz) : A 6 = 1 ∧ B 6 = 0 ∧ C 6 = 0 ∧ D 6 = 0 := h.2.2.2.1
theorem gP.b7 {kn : Nat → Prop} {A B C D : Nat → Int} {sx sy sz : Int} (h : gP kn A B C D sx sy sz) : A 7 = 1 ∧ B 7 = 0 ∧ C 7 = 0 ∧ D 7 = sx := h.2.2.2.2.1
theorem gP.b8 {kn : Nat → Prop} {A B C D : Nat → Int} {sx sy sz : Int} (h : gP kn A B C D sx sy sz) : A 8 = 0 ∧ B 8 = 1 ∧ C 8 = 0 ∧ D 8 = 0 := h.2.2.2.2.2.1
theorem gP.b9 {kn : Nat → Prop} {A B C D : Nat → Int} {sx sy sz : Int} (h : gP kn A B C D sx sy sz) : A 9 = 0 ∧ B 9 = 1 ∧ C 9 = 0 ∧ D 9 = sy := h.2.2.2.2.2.2.1
theorem gP.b10 {kn : Nat → Prop} {A B C D : Nat → Int} {sx sy sz : Int} (h : gP kn A B C D sx sy sz) : A 10 = 0 ∧ B 10 = 0 ∧ C 10 = 1 ∧ D 10 = 0 := h.2.2.2.2.2.2.2.1
theorem gP.b11 {kn : Nat → Prop} {A B C D : Nat → Int} {sx sy sz : Int} (h : gP kn A B C D sx sy sz) : A 11 = 0 ∧ B 11 = 0 ∧ C 11 = 1 ∧ D 11 = sz := h.2.2.2.2.2.2.2.2
/-- sides: 1 above, -1 below; in the box -/
def gS (kn : Nat → Prop) (σ : Nat → Int) : Prop := (∀ g, g < 12 → kn g → σ g = 1 ∨ σ g = -1) ∧ (σ 6 = 1) ∧ (σ 7 = -1) ∧ (σ 8 = 1) ∧ (σ 9 = -1) ∧ (σ 10 = 1) ∧ (σ 11 = -1)
theorem gS.pm {kn : Nat → Prop} {σ : Nat → Int} (h : gS kn σ) : ∀ g, g < 12 → kn g → σ g = 1 ∨ σ g = -1 := h.1
theorem gS.b6 {kn : Nat → Prop} {σ : Nat → Int} (h : gS kn σ) : σ 6 = 1 := h.2.1
theorem gS.b7 {kn : Nat → Prop} {σ : Nat → Int} (h : gS kn σ) : σ 7 = -1 := h.2.2.1
theorem gS.b8 {kn : Nat → Prop} {σ : Nat → Int} (h : gS kn σ) : σ 8 = 1 := h.2.2.2.1
theorem gS.b9 {kn : Nat → Prop} {σ : Nat → Int} (h : gS kn σ) : σ 9 = -1 := h.2.2.2.2.1
theorem gS.b10 {kn : Nat → Prop} {σ : Nat → Int} (h : gS kn σ) : σ 10 = 1 := h.2.2.2.2.2.1
theorem gS.b11 {kn : Nat → Prop} {σ : Nat → Int} (h : gS kn σ) : σ 11 = -1 := h.2.2.2.2.2.2
theorem gS.gB {kn : Nat → Prop} {A B C D σ : Nat → Int} {sx sy sz : Int} (hs : gS kn σ) (hp : gP kn A B C D sx sy sz) : gB kn A B C σ := by
  intro u v w hU
  obtain ⟨k6, k7, k8, k9, k10, k11⟩ := hp.bx
  have := hp.b6; have := hp.b7; have := hp.b8; have := hp.b9; have := hp.b10; have := hp.b11
  have := hs.b6; have := hs.b7; have := hs.b8; have := hs.b9; have := hs.b10; have := hs.b11
  by_cases h1 : u < 0
  · exact ⟨6, by decide, k6, by simp only [gn]; grind⟩
  by_cases h2 : 0 < u
  · exact ⟨7, by decide, k7, by simp only [gn]; grind⟩
  by_cases h3 : v < 0
  · exact ⟨8, by decide, k8, by simp only [gn]; grind⟩
  by_cases h4 : 0 < v
  · exact ⟨9, by decide, k9, by simp only [gn]; grind⟩
  by_cases h5 : w < 0
  · exact ⟨10, by decide, k10, by simp only [gn]; grind⟩
  by_cases h6 : 0 < w
  · exact ⟨11, by decide, k11, by simp only [gn]; grind⟩
  exact absurd ⟨by omega, by omega, by omega⟩ hU
theorem gS.box {kn : Nat → Prop} {A B C D σ : Nat → Int} {sx sy sz : Int} (hs : gS kn σ) (hp : gP kn A B C D sx sy sz) {x y z q : Int} (hQ : gQ kn A B C D σ x y z q) : (0 ≤ x ∧ x ≤ sx * q) ∧ (0 ≤ y ∧ y ≤ sy * q) ∧ (0 ≤ z ∧ z ≤ sz * q) := by
  obtain ⟨k6, k7, k8, k9, k10, k11⟩ := hp.bx
  have e6 := hQ 6 (by decide) k6; have e7 := hQ 7 (by decide) k7; have e8 := hQ 8 (by decide) k8; have e9 := hQ 9 (by decide) k9; have e10 := hQ 10 (by decide) k10; have e11 := hQ 11 (by decide) k11
  obtain ⟨a1, a2, a3, a4⟩ := hp.b6; obtain ⟨b1, b2, b3, b4⟩ := hp.b7; obtain ⟨c1, c2, c3, c4⟩ := hp.b8; obtain ⟨d1, d2, d3, d4⟩ := hp.b9; obtain ⟨f1, f2, f3, f4⟩ := hp.b10; obtain ⟨g1, g2, g3, g4⟩ := hp.b11
  simp only [gh, hs.b6, hs.b7, hs.b8, hs.b9, hs.b10, hs.b11, a1, a2, a3, a4, b1, b2, b3, b4, c1, c2, c3, c4, d1, d2, d3, d4, f1, f2, f3, f4, g1, g2, g3, g4] at e6 e7 e8 e9 e10 e11
  refine ⟨⟨?_, ?_⟩, ⟨?_, ?_⟩, ⟨?_, ?_⟩⟩ <;> omega
/-- the same place: the same sides -/
theorem gh_pr {A B C D : Nat → Int} (g : Nat) {x y z q x' y' z' q' : Int} (h1 : x' * q = x * q') (h2 : y' * q = y * q') (h3 : z' * q = z * q') : gh A B C D g x' y' z' q' * q = gh A B C D g x y z q * q' := by
  simp only [gh]; grind
theorem gQ_pr {kn : Nat → Prop} {A B C D σ : Nat → Int} {x y z q x' y' z' q' : Int} (hq : 0 < q) (hq' : 0 < q') (h1 : x' * q = x * q') (h2 : y' * q = y * q') (h3 : z' * q = z * q') (h : gQ kn A B C D σ x y z q) : gQ kn A B C D σ x' y' z' q' := by
  intro g hg hk
  have e := gh_pr (A := A) (B := B) (C := C) (D := D) g h1 h2 h3
  have h4 := Int.mul_nonneg (h g hg hk) (Int.le_of_lt hq')
  have h5 : σ g * gh A B C D g x' y' z' q' * q = σ g * gh A B C D g x y z q * q' := by rw [Int.mul_assoc, e, Int.mul_assoc]
  rw [← h5] at h4
  exact Int.le_of_mul_le_mul_right (by omega) hq
theorem gh_pr0 {A B C D : Nat → Int} {g : Nat} {x y z q x' y' z' q' : Int} (hq : 0 < q) (h1 : x' * q = x * q') (h2 : y' * q = y * q') (h3 : z' * q = z * q') (h : gh A B C D g x y z q = 0) : gh A B C D g x' y' z' q' = 0 := by
  have e := gh_pr (A := A) (B := B) (C := C) (D := D) g h1 h2 h3
  rw [h, Int.zero_mul] at e
  rcases Int.mul_eq_zero.mp e with h | h
  · exact h
  · omega
theorem gh_add (A B C D : Nat → Int) (g : Nat) (x y z q x' y' z' q' : Int) : gh A B C D g (x + x') (y + y') (z + z') (q + q') = gh A B C D g x y z q + gh A B C D g x' y' z' q' := by
  simp only [gh]; grind
theorem gQ_add {kn : Nat → Prop} {A B C D σ : Nat → Int} {x y z q x' y' z' q' : Int} (h : gQ kn A B C D σ x y z q) (h' : gQ kn A B C D σ x' y' z' q') : gQ kn A B C D σ (x + x') (y + y') (z + z') (q + q') := by
  intro g hg hk
  have h1 := h g hg hk
  have h2 := h' g hg hk
  rw [gh_add, Int.mul_add]
  omega
theorem g_sgn {kn : Nat → Prop} {σ : Nat → Int} (hs : gS kn σ) {g : Nat} (hg : g < 12) (hk : kn g) {t : Int} (h : σ g * t = 0) : t = 0 := by
  rcases hs.pm g hg hk with e | e <;> rw [e] at h <;> omega
/-- a corner on f of the cell, on the far side of L -/
theorem g_far {kn : Nat → Prop} {A B C D σ : Nat → Int} {sx sy sz : Int} {n : Nat} {px py pz pq : Nat → Int} (hv : gV kn A B C D sx sy sz n px py pz pq) (hp : gP kn A B C D sx sy sz) (hs : gS kn σ) {x y z q l1 l2 l3 l4 : Int} {f : Nat} (hq : 0 < q) (hQ : gQ kn A B C D σ x y z q) (hf : f < 12) (hkf : kn f) (h0 : gh A B C D f x y z q = 0) (hL : 0 < l1 * x + l2 * y + l3 * z + l4 * q) :
    ∃ i, i < n ∧ gQ kn A B C D σ (px i) (py i) (pz i) (pq i) ∧ gh A B C D f (px i) (py i) (pz i) (pq i) = 0 ∧ 0 < l1 * px i + l2 * py i + l3 * pz i + l4 * pq i := by
  obtain ⟨x', y', z', q', j, k, a1, a2, a3, a4, a5, a6, a7, a8, a9, a10, a11⟩ := g_corner (hs.gB hp) hq hQ hf hkf (hp.nz f hf hkf) h0 hL
  obtain ⟨b1, b2, b3⟩ := hs.box hp a2
  obtain ⟨i, c1, c2, c3, c4⟩ := hv.cmp f j k hf a3 a5 hkf a4 a6 a7 x' y' z' q' a1 a8 a9 a10 b1 b2 b3
  refine ⟨i, c1, gQ_pr a1 (hv.pos i c1) c2 c3 c4 a2, gh_pr0 a1 c2 c3 c4 a8, ?_⟩
  have h1 := Int.mul_pos a11 (hv.pos i c1)
  have e : (l1 * px i + l2 * py i + l3 * pz i + l4 * pq i) * q' = (l1 * x' + l2 * y' + l3 * z' + l4 * q') * pq i := by grind
  rw [← e] at h1
  exact Int.pos_of_mul_pos_left h1 a1
/-- a face that is in no other plane has three corners -/
theorem g_three {kn : Nat → Prop} {A B C D σ : Nat → Int} {sx sy sz : Int} {n : Nat} {px py pz pq : Nat → Int} (hv : gV kn A B C D sx sy sz n px py pz pq) (hp : gP kn A B C D sx sy sz) (hs : gS kn σ) {f : Nat} (hf : f < 12) (hkf : kn f)
    (hF : ∀ g, g < 12 → kn g → g ≠ f → ∃ i, i < n ∧ gQ kn A B C D σ (px i) (py i) (pz i) (pq i) ∧ gh A B C D f (px i) (py i) (pz i) (pq i) = 0 ∧ gh A B C D g (px i) (py i) (pz i) (pq i) ≠ 0) :
    ∃ i j k, i < n ∧ j < n ∧ k < n ∧ i ≠ j ∧ i ≠ k ∧ j ≠ k ∧ (gQ kn A B C D σ (px i) (py i) (pz i) (pq i) ∧ gh A B C D f (px i) (py i) (pz i) (pq i) = 0) ∧ (gQ kn A B C D σ (px j) (py j) (pz j) (pq j) ∧ gh A B C D f (px j) (py j) (pz j) (pq j) = 0) ∧ (gQ kn A B C D σ (px k) (py k) (pz k) (pq k) ∧ gh A B C D f (px k) (py k) (pz k) (pq k) = 0) := by
  have hG : ∃ g, g < 12 ∧ kn g ∧ g ≠ f := by
    by_cases h : f = 6
    · exact ⟨7, by decide, hp.bx.2.1, by omega⟩
    · exact ⟨6, by decide, hp.bx.1, by omega⟩
  obtain ⟨g0, b1, b2, b3⟩ := hG
  obtain ⟨i, hi, hQi, hfi, -⟩ := hF g0 b1 b2 b3
  -- a second one
  have h2 : ∃ j, j < n ∧ gQ kn A B C D σ (px j) (py j) (pz j) (pq j) ∧ gh A B C D f (px j) (py j) (pz j) (pq j) = 0 ∧ i ≠ j := by
    obtain ⟨a, b, c, c1, c2, c3, d1, d2, d3, e0, e1, e2, e3⟩ := hv.snd i hi
    by_cases h : a = f
    · have hbf : b ≠ f := by
        intro hb
        apply e0
        subst h hb
        simp only [gd, gn, gx1, gx2, gx3]; grind
      obtain ⟨j, k1, k2, k3, k4⟩ := hF b c2 d2 hbf
      exact ⟨j, k1, k2, k3, fun q => k4 (by rw [← q]; exact e2)⟩
    · obtain ⟨j, k1, k2, k3, k4⟩ := hF a c1 d1 h
      exact ⟨j, k1, k2, k3, fun q => k4 (by rw [← q]; exact e1)⟩
  obtain ⟨j, hj, hQj, hfj, hij⟩ := h2
  suffices h3 : ∃ k, k < n ∧ gQ kn A B C D σ (px k) (py k) (pz k) (pq k) ∧ gh A B C D f (px k) (py k) (pz k) (pq k) = 0 ∧ i ≠ k ∧ j ≠ k by
    obtain ⟨k, hk, hQk, hfk, h4, h5⟩ := h3
    exact ⟨i, j, k, hi, hj, hk, hij, h4, h5, ⟨hQi, hfi⟩, ⟨hQj, hfj⟩, ⟨hQk, hfk⟩⟩
  by_cases hg : ∃ g, g < 12 ∧ kn g ∧ g ≠ f ∧ gh A B C D g (px i) (py i) (pz i) (pq i) = 0 ∧ gh A B C D g (px j) (py j) (pz j) (pq j) = 0
  · obtain ⟨g, c1, c2, c3, c4, c5⟩ := hg
    obtain ⟨k, k1, k2, k3, k4⟩ := hF g c1 c2 c3
    exact ⟨k, k1, k2, k3, fun q => k4 (by rw [← q]; exact c4), fun q => k4 (by rw [← q]; exact c5)⟩
  -- the middle is on f alone
  have hqi := hv.pos i hi
  have hqj := hv.pos j hj
  have hQm := gQ_add hQi hQj
  have hfm : gh A B C D f (px i + px j) (py i + py j) (pz i + pz j) (pq i + pq j) = 0 := by rw [gh_add, hfi, hfj]; rfl
  have hst : ∀ g, g < 12 → kn g → g ≠ f → gh A B C D g (px i + px j) (py i + py j) (pz i + pz j) (pq i + pq j) ≠ 0 := by
    intro g c1 c2 c3 h
    apply hg
    rw [gh_add] at h
    have h1 := hQi g c1 c2
    have h2 := hQj g c1 c2
    have h3 : σ g * gh A B C D g (px i) (py i) (pz i) (pq i) + σ g * gh A B C D g (px j) (py j) (pz j) (pq j) = 0 := by rw [← Int.mul_add, h, Int.mul_zero]
    exact ⟨g, c1, c2, c3, g_sgn hs c1 c2 (by omega), g_sgn hs c1 c2 (by omega)⟩
  -- a direction in f across the line
  obtain ⟨d1, hd1⟩ : ∃ d, d = px j * pq i - px i * pq j := ⟨_, rfl⟩
  obtain ⟨d2, hd2⟩ : ∃ d, d = py j * pq i - py i * pq j := ⟨_, rfl⟩
  obtain ⟨d3, hd3⟩ : ∃ d, d = pz j * pq i - pz i * pq j := ⟨_, rfl⟩
  have hd : ¬ (d1 = 0 ∧ d2 = 0 ∧ d3 = 0) := by
    rintro ⟨z1, z2, z3⟩
    exact hij (hv.dst i j hi hj (by omega) (by omega) (by omega))
  have hfd : A f * d1 + B f * d2 + C f * d3 = 0 := by
    simp only [gh] at hfi hfj
    subst hd1 hd2 hd3
    grind
  obtain ⟨u, hu⟩ : ∃ u, u = B f * d3 - C f * d2 := ⟨_, rfl⟩
  obtain ⟨v, hv'⟩ : ∃ v, v = C f * d1 - A f * d3 := ⟨_, rfl⟩
  obtain ⟨w, hw⟩ : ∃ w, w = A f * d2 - B f * d1 := ⟨_, rfl⟩
  have hU : ¬ (u = 0 ∧ v = 0 ∧ w = 0) := by
    rintro ⟨z1, z2, z3⟩
    have e : (A f * A f + B f * B f + C f * C f) * (d1 * d1 + d2 * d2 + d3 * d3) = u * u + v * v + w * w + (A f * d1 + B f * d2 + C f * d3) * (A f * d1 + B f * d2 + C f * d3) := by subst hu hv' hw; grind
    rw [z1, z2, z3, hfd] at e
    rcases Int.mul_eq_zero.mp (e.trans (by decide)) with h | h
    · exact hp.nz f hf hkf (g_sq h)
    · exact hd (g_sq h)
  have hfu : gn A B C f u v w = 0 := by simp only [gn]; subst hu hv' hw; grind
  have hud : u * d1 + v * d2 + w * d3 = 0 := by subst hu hv' hw; grind
  obtain ⟨g, k, t, c1, c2, c3, c4, c5, -, c6, c7, c8⟩ := g_step (hs.gB hp) hQm hU
  have hgf : g ≠ f := fun q => c5 (by rw [q]; exact hfu)
  have ht : 0 < t := by
    have : t ≠ 0 := fun q => hst g c1 c2 hgf (g_sgn hs c1 c2 (by rw [← c6]; exact q))
    omega
  have huu : 0 < u * u + v * v + w * w := by
    have h1 : 0 ≤ u * u := by rcases Int.le_total 0 u with h | h; exact Int.mul_nonneg h h; exact Int.mul_nonneg_of_nonpos_of_nonpos h h
    have h2 : 0 ≤ v * v := by rcases Int.le_total 0 v with h | h; exact Int.mul_nonneg h h; exact Int.mul_nonneg_of_nonpos_of_nonpos h h
    have h3 : 0 ≤ w * w := by rcases Int.le_total 0 w with h | h; exact Int.mul_nonneg h h; exact Int.mul_nonneg_of_nonpos_of_nonpos h h
    have h4 : u * u + v * v + w * w ≠ 0 := fun q => hU (g_sq q)
    omega
  have hqi' : 0 < pq i * (u * u + v * v + w * w) := Int.mul_pos hqi huu
  have hL := Int.mul_pos ht hqi'
  have hud2 : u * (px j * pq i - px i * pq j) + v * (py j * pq i - py i * pq j) + w * (pz j * pq i - pz i * pq j) = 0 := by rw [← hd1, ← hd2, ← hd3]; exact hud
  obtain ⟨m, e1, e2, e3, e4⟩ := g_far hv hp hs (l1 := pq i * u) (l2 := pq i * v) (l3 := pq i * w) (l4 := -(u * px i + v * py i + w * pz i)) (Int.mul_pos c3 (show 0 < pq i + pq j by omega)) c8 hf hkf (by rw [gh_mv, hfm, hfu]; simp) (by
    have e : pq i * u * (k * (px i + px j) + t * u) + pq i * v * (k * (py i + py j) + t * v) + pq i * w * (k * (pz i + pz j) + t * w) + -(u * px i + v * py i + w * pz i) * (k * (pq i + pq j)) = t * (pq i * (u * u + v * v + w * w)) + k * (u * (px j * pq i - px i * pq j) + v * (py j * pq i - py i * pq j) + w * (pz j * pq i - pz i * pq j)) := by grind
    rw [e, hud2, Int.mul_zero]
    omega)
  refine ⟨m, e1, e2, e3, fun q => ?_, fun q => ?_⟩
  · rw [← q] at e4
    have : pq i * u * px i + pq i * v * py i + pq i * w * pz i + -(u * px i + v * py i + w * pz i) * pq i = 0 := by grind
    omega
  · rw [← q] at e4
    have : pq i * u * px j + pq i * v * py j + pq i * w * pz j + -(u * px i + v * py i + w * pz i) * pq j = u * (px j * pq i - px i * pq j) + v * (py j * pq i - py i * pq j) + w * (pz j * pq i - pz i * pq j) := by grind
    omega
theorem g_id1 {a b c d x1 y1 z1 q1 x2 y2 z2 q2 x3 y3 z3 q3 l1 l2 l3 : Int} (h1 : a * x1 + b * y1 + c * z1 - d * q1 = 0) (h2 : a * x2 + b * y2 + c * z2 - d * q2 = 0) (h3 : a * x3 + b * y3 + c * z3 - d * q3 = 0) :
    a * ((l3 * q1 - l1 * q3) * x2 - (l3 * q2 - l2 * q3) * x1 - (l2 * q1 - l1 * q2) * x3) + b * ((l3 * q1 - l1 * q3) * y2 - (l3 * q2 - l2 * q3) * y1 - (l2 * q1 - l1 * q2) * y3) + c * ((l3 * q1 - l1 * q3) * z2 - (l3 * q2 - l2 * q3) * z1 - (l2 * q1 - l1 * q2) * z3) = 0 := by
  have : a * ((l3 * q1 - l1 * q3) * x2 - (l3 * q2 - l2 * q3) * x1 - (l2 * q1 - l1 * q2) * x3) + b * ((l3 * q1 - l1 * q3) * y2 - (l3 * q2 - l2 * q3) * y1 - (l2 * q1 - l1 * q2) * y3) + c * ((l3 * q1 - l1 * q3) * z2 - (l3 * q2 - l2 * q3) * z1 - (l2 * q1 - l1 * q2) * z3) = (l3 * q1 - l1 * q3) * (a * x2 + b * y2 + c * z2 - d * q2) - (l3 * q2 - l2 * q3) * (a * x1 + b * y1 + c * z1 - d * q1) - (l2 * q1 - l1 * q2) * (a * x3 + b * y3 + c * z3 - d * q3) := by clear h1 h2 h3; grind
  rw [this, h1, h2, h3]; simp
theorem g_id2 {a b c d x1 y1 z1 q1 x2 y2 z2 q2 : Int} (h1 : a * x1 + b * y1 + c * z1 - d * q1 = 0) (h2 : a * x2 + b * y2 + c * z2 - d * q2 = 0) : a * (x2 * q1 - x1 * q2) + b * (y2 * q1 - y1 * q2) + c * (z2 * q1 - z1 * q2) = 0 := by
  have : a * (x2 * q1 - x1 * q2) + b * (y2 * q1 - y1 * q2) + c * (z2 * q1 - z1 * q2) = q1 * (a * x2 + b * y2 + c * z2 - d * q2) - q2 * (a * x1 + b * y1 + c * z1 - d * q1) := by clear h1 h2; grind
  rw [this, h1, h2]; simp
theorem g_id3 {a b c a' b' c' a'' b'' c'' e1 e2 e3 : Int} (h1 : a * e1 + b * e2 + c * e3 = 0) (h2 : a' * e1 + b' * e2 + c' * e3 = 0) (h3 : a'' * e1 + b'' * e2 + c'' * e3 = 0) (hd : a'' * (b * c' - c * b') + b'' * (c * a' - a * c') + c'' * (a * b' - b * a') ≠ 0) : e1 = 0 ∧ e2 = 0 ∧ e3 = 0 := by
  have k1 : (a'' * (b * c' - c * b') + b'' * (c * a' - a * c') + c'' * (a * b' - b * a')) * e1 = (b' * c'' - c' * b'') * (a * e1 + b * e2 + c * e3) + (b'' * c - c'' * b) * (a' * e1 + b' * e2 + c' * e3) + (b * c' - c * b') * (a'' * e1 + b'' * e2 + c'' * e3) := by clear h1 h2 h3 hd; grind
  have k2 : (a'' * (b * c' - c * b') + b'' * (c * a' - a * c') + c'' * (a * b' - b * a')) * e2 = (c' * a'' - a' * c'') * (a * e1 + b * e2 + c * e3) + (c'' * a - a'' * c) * (a' * e1 + b' * e2 + c' * e3) + (c * a' - a * c') * (a'' * e1 + b'' * e2 + c'' * e3) := by clear h1 h2 h3 hd k1; grind
  have k3 : (a'' * (b * c' - c * b') + b'' * (c * a' - a * c') + c'' * (a * b' - b * a')) * e3 = (a' * b'' - b' * a'') * (a * e1 + b * e2 + c * e3) + (a'' * b - b'' * a) * (a' * e1 + b' * e2 + c' * e3) + (a * b' - b * a') * (a'' * e1 + b'' * e2 + c'' * e3) := by clear h1 h2 h3 hd k1 k2; grind
  rw [h1, h2, h3] at k1 k2 k3
  refine ⟨?_, ?_, ?_⟩
  · exact (Int.mul_eq_zero.mp (k1.trans (by simp))).resolve_left hd
  · exact (Int.mul_eq_zero.mp (k2.trans (by simp))).resolve_left hd
  · exact (Int.mul_eq_zero.mp (k3.trans (by simp))).resolve_left hd
/-- what is upright on two vectors and on their cross is nothing -/
theorem g_id4 {a b c a' b' c' e1 e2 e3 : Int} (hx : ¬ (b * c' - c * b' = 0 ∧ c * a' - a * c' = 0 ∧ a * b' - b * a' = 0)) (h1 : a * e1 + b * e2 + c * e3 = 0) (h2 : a' * e1 + b' * e2 + c' * e3 = 0) (h3 : (b * c' - c * b') * e1 + (c * a' - a * c') * e2 + (a * b' - b * a') * e3 = 0) : e1 = 0 ∧ e2 = 0 ∧ e3 = 0 := by
  refine g_id3 h1 h2 h3 (fun q => hx (g_sq ?_))
  exact q
theorem g_id5 {a b c d x1 y1 z1 q1 x2 y2 z2 q2 x3 y3 z3 q3 l1 l2 l3 e1 e2 e3 : Int} (he1 : e1 = (l3 * q1 - l1 * q3) * x2 - (l3 * q2 - l2 * q3) * x1 - (l2 * q1 - l1 * q2) * x3) (he2 : e2 = (l3 * q1 - l1 * q3) * y2 - (l3 * q2 - l2 * q3) * y1 - (l2 * q1 - l1 * q2) * y3) (he3 : e3 = (l3 * q1 - l1 * q3) * z2 - (l3 * q2 - l2 * q3) * z1 - (l2 * q1 - l1 * q2) * z3) :
    (l3 * q2 - l2 * q3) * (a * x1 + b * y1 + c * z1 - d * q1) + (l2 * q1 - l1 * q2) * (a * x3 + b * y3 + c * z3 - d * q3) = (l3 * q1 - l1 * q3) * (a * x2 + b * y2 + c * z2 - d * q2) - (a * e1 + b * e2 + c * e3) := by
  subst he1 he2 he3; grind
theorem g_id6 {u v w x1 y1 z1 q1 x2 y2 z2 q2 x3 y3 z3 q3 l1 l2 l3 : Int} (h1 : l1 = u * x1 + v * y1 + w * z1) (h2 : l2 = u * x2 + v * y2 + w * z2) (h3 : l3 = u * x3 + v * y3 + w * z3) :
    u * ((l3 * q1 - l1 * q3) * x2 - (l3 * q2 - l2 * q3) * x1 - (l2 * q1 - l1 * q2) * x3) + v * ((l3 * q1 - l1 * q3) * y2 - (l3 * q2 - l2 * q3) * y1 - (l2 * q1 - l1 * q2) * y3) + w * ((l3 * q1 - l1 * q3) * z2 - (l3 * q2 - l2 * q3) * z1 - (l2 * q1 - l1 * q2) * z3) = 0 := by
  have : u * ((l3 * q1 - l1 * q3) * x2 - (l3 * q2 - l2 * q3) * x1 - (l2 * q1 - l1 * q2) * x3) + v * ((l3 * q1 - l1 * q3) * y2 - (l3 * q2 - l2 * q3) * y1 - (l2 * q1 - l1 * q2) * y3) + w * ((l3 * q1 - l1 * q3) * z2 - (l3 * q2 - l2 * q3) * z1 - (l2 * q1 - l1 * q2) * z3) = (l3 * q1 - l1 * q3) * (u * x2 + v * y2 + w * z2) - (l3 * q2 - l2 * q3) * (u * x1 + v * y1 + w * z1) - (l2 * q1 - l1 * q2) * (u * x3 + v * y3 + w * z3) := by clear h1 h2 h3; grind
  rw [this, ← h1, ← h2, ← h3]; clear this h1 h2 h3; grind
/-- no corner on a line of two planes lies between two others -/
theorem g_nb {kn : Nat → Prop} {A B C D σ : Nat → Int} {sx sy sz : Int} {n : Nat} {px py pz pq : Nat → Int} (hv : gV kn A B C D sx sy sz n px py pz pq) (hs : gS kn σ) {f g : Nat}
    (hx : ¬ (gx1 B C f g = 0 ∧ gx2 A C f g = 0 ∧ gx3 A B f g = 0)) {a b c : Nat} (hb : b < n)
    (hQa : gQ kn A B C D σ (px a) (py a) (pz a) (pq a)) (hQc : gQ kn A B C D σ (px c) (py c) (pz c) (pq c))
    (fa : gh A B C D f (px a) (py a) (pz a) (pq a) = 0) (fb : gh A B C D f (px b) (py b) (pz b) (pq b) = 0) (fc : gh A B C D f (px c) (py c) (pz c) (pq c) = 0)
    (ga : gh A B C D g (px a) (py a) (pz a) (pq a) = 0) (gb : gh A B C D g (px b) (py b) (pz b) (pq b) = 0) (gc : gh A B C D g (px c) (py c) (pz c) (pq c) = 0)
    (h1 : 0 < (gx1 B C f g * px b + gx2 A C f g * py b + gx3 A B f g * pz b) * pq a - (gx1 B C f g * px a + gx2 A C f g * py a + gx3 A B f g * pz a) * pq b)
    (h2 : 0 < (gx1 B C f g * px c + gx2 A C f g * py c + gx3 A B f g * pz c) * pq b - (gx1 B C f g * px b + gx2 A C f g * py b + gx3 A B f g * pz b) * pq c) : False := by
  obtain ⟨u, hu⟩ : ∃ u, u = gx1 B C f g := ⟨_, rfl⟩
  obtain ⟨v, hv'⟩ : ∃ v, v = gx2 A C f g := ⟨_, rfl⟩
  obtain ⟨w, hw⟩ : ∃ w, w = gx3 A B f g := ⟨_, rfl⟩
  rw [← hu, ← hv', ← hw] at hx h1 h2
  obtain ⟨la, hla⟩ : ∃ l, l = u * px a + v * py a + w * pz a := ⟨_, rfl⟩
  obtain ⟨lb, hlb⟩ : ∃ l, l = u * px b + v * py b + w * pz b := ⟨_, rfl⟩
  obtain ⟨lc, hlc⟩ : ∃ l, l = u * px c + v * py c + w * pz c := ⟨_, rfl⟩
  rw [← hla, ← hlb] at h1
  rw [← hlb, ← hlc] at h2
  -- b between a and c
  obtain ⟨e1, he1⟩ : ∃ e, e = (lc * pq a - la * pq c) * px b - (lc * pq b - lb * pq c) * px a - (lb * pq a - la * pq b) * px c := ⟨_, rfl⟩
  obtain ⟨e2, he2⟩ : ∃ e, e = (lc * pq a - la * pq c) * py b - (lc * pq b - lb * pq c) * py a - (lb * pq a - la * pq b) * py c := ⟨_, rfl⟩
  obtain ⟨e3, he3⟩ : ∃ e, e = (lc * pq a - la * pq c) * pz b - (lc * pq b - lb * pq c) * pz a - (lb * pq a - la * pq b) * pz c := ⟨_, rfl⟩
  have k1 : A f * e1 + B f * e2 + C f * e3 = 0 := by rw [he1, he2, he3]; exact g_id1 fa fb fc
  have k2 : A g * e1 + B g * e2 + C g * e3 = 0 := by rw [he1, he2, he3]; exact g_id1 ga gb gc
  have k3 : u * e1 + v * e2 + w * e3 = 0 := by rw [he1, he2, he3]; exact g_id6 hla hlb hlc
  have k5 : e1 = 0 ∧ e2 = 0 ∧ e3 = 0 := by
    rw [hu, hv', hw] at hx k3
    exact g_id4 hx k1 k2 k3
  obtain ⟨z1, z2, z3⟩ := k5
  -- so each plane at b has a
  have hpl : ∀ p, p < 12 → kn p → gh A B C D p (px b) (py b) (pz b) (pq b) = 0 → gh A B C D p (px a) (py a) (pz a) (pq a) = 0 := by
    intro p hp hk h0
    have q1 := hQa p hp hk
    have q2 := hQc p hp hk
    have e : (lc * pq b - lb * pq c) * gh A B C D p (px a) (py a) (pz a) (pq a) + (lb * pq a - la * pq b) * gh A B C D p (px c) (py c) (pz c) (pq c) = 0 := by
      have : (lc * pq b - lb * pq c) * gh A B C D p (px a) (py a) (pz a) (pq a) + (lb * pq a - la * pq b) * gh A B C D p (px c) (py c) (pz c) (pq c) = (lc * pq a - la * pq c) * gh A B C D p (px b) (py b) (pz b) (pq b) - (A p * e1 + B p * e2 + C p * e3) := by
        exact g_id5 he1 he2 he3
      rw [this, h0, z1, z2, z3]; simp
    have e' : (lc * pq b - lb * pq c) * (σ p * gh A B C D p (px a) (py a) (pz a) (pq a)) + (lb * pq a - la * pq b) * (σ p * gh A B C D p (px c) (py c) (pz c) (pq c)) = 0 := by
      rw [Int.mul_left_comm, Int.mul_left_comm (lb * pq a - la * pq b), ← Int.mul_add, e, Int.mul_zero]
    have r1 := Int.mul_nonneg (Int.le_of_lt h2) q1
    have r2 := Int.mul_nonneg (Int.le_of_lt h1) q2
    have r3 : (lc * pq b - lb * pq c) * (σ p * gh A B C D p (px a) (py a) (pz a) (pq a)) = 0 := by omega
    rcases Int.mul_eq_zero.mp r3 with h | h
    · omega
    · exact g_sgn hs hp hk h
  obtain ⟨i, j, k, c1, c2, c3, d1, d2, d3, e0, t1, t2, t3⟩ := hv.snd b hb
  have s1 := hpl i c1 d1 t1
  have s2 := hpl j c2 d2 t2
  have s3 := hpl k c3 d3 t3
  -- three planes: one point
  obtain ⟨y1, y2, y3⟩ := g_id3 (g_id2 s1 t1) (g_id2 s2 t2) (g_id2 s3 t3) e0
  have : lb * pq a - la * pq b = u * (px b * pq a - px a * pq b) + v * (py b * pq a - py a * pq b) + w * (pz b * pq a - pz a * pq b) := by rw [hla, hlb]; clear hla hlb h1 h2 y1 y2 y3; grind
  rw [this, y1, y2, y3] at h1
  simp at h1
theorem g_id7 (a b c d s x y z q : Int) : s * a * x + s * b * y + s * c * z + -(s * d) * q = s * (a * x + b * y + c * z - d * q) := by grind
/-- three corners on a plane lie in no other -/
theorem g_face {kn : Nat → Prop} {A B C D σ : Nat → Int} {sx sy sz : Int} {n : Nat} {px py pz pq : Nat → Int} (hv : gV kn A B C D sx sy sz n px py pz pq) (hp : gP kn A B C D sx sy sz) (hs : gS kn σ) {f : Nat} (hf : f < 12) (hkf : kn f) {i j k : Nat} (hi : i < n) (hj : j < n) (hk : k < n) (hij : i ≠ j) (hik : i ≠ k) (hjk : j ≠ k)
    (ti : gQ kn A B C D σ (px i) (py i) (pz i) (pq i) ∧ gh A B C D f (px i) (py i) (pz i) (pq i) = 0) (tj : gQ kn A B C D σ (px j) (py j) (pz j) (pq j) ∧ gh A B C D f (px j) (py j) (pz j) (pq j) = 0) (tk : gQ kn A B C D σ (px k) (py k) (pz k) (pq k) ∧ gh A B C D f (px k) (py k) (pz k) (pq k) = 0)
    (g : Nat) (hg : g < 12) (hkg : kn g) (hgf : g ≠ f) : ∃ i, i < n ∧ gQ kn A B C D σ (px i) (py i) (pz i) (pq i) ∧ gh A B C D f (px i) (py i) (pz i) (pq i) = 0 ∧ gh A B C D g (px i) (py i) (pz i) (pq i) ≠ 0 := by
  by_cases gi : gh A B C D g (px i) (py i) (pz i) (pq i) = 0
  · by_cases gj : gh A B C D g (px j) (py j) (pz j) (pq j) = 0
    · by_cases gk : gh A B C D g (px k) (py k) (pz k) (pq k) = 0
      · exfalso
        have hx := hp.ds f g hf hg hkf hkg (Ne.symm hgf) _ _ _ _ (hv.pos i hi) ti.2 gi
        -- two different ones lie apart along the line
        have ne : ∀ a b, a < n → b < n → a ≠ b → gh A B C D f (px a) (py a) (pz a) (pq a) = 0 → gh A B C D f (px b) (py b) (pz b) (pq b) = 0 → gh A B C D g (px a) (py a) (pz a) (pq a) = 0 → gh A B C D g (px b) (py b) (pz b) (pq b) = 0 →
            (gx1 B C f g * px b + gx2 A C f g * py b + gx3 A B f g * pz b) * pq a - (gx1 B C f g * px a + gx2 A C f g * py a + gx3 A B f g * pz a) * pq b ≠ 0 := by
          intro a b ha hb hab fa fb ga gb h0
          have e : (gx1 B C f g * px b + gx2 A C f g * py b + gx3 A B f g * pz b) * pq a - (gx1 B C f g * px a + gx2 A C f g * py a + gx3 A B f g * pz a) * pq b = gx1 B C f g * (px b * pq a - px a * pq b) + gx2 A C f g * (py b * pq a - py a * pq b) + gx3 A B f g * (pz b * pq a - pz a * pq b) := by
            generalize gx1 B C f g = u; generalize gx2 A C f g = v; generalize gx3 A B f g = w
            clear h0; grind
          rw [e] at h0
          obtain ⟨y1, y2, y3⟩ := g_id4 hx (g_id2 fa fb) (g_id2 ga gb) h0
          exact hab (hv.dst a b ha hb (by omega) (by omega) (by omega))
        have n1 := ne i j hi hj hij ti.2 tj.2 gi gj
        have n2 := ne j k hj hk hjk tj.2 tk.2 gj gk
        have n3 := ne i k hi hk hik ti.2 tk.2 gi gk
        have b1 := g_nb hv hs hx (a := i) (b := j) (c := k) hj ti.1 tk.1 ti.2 tj.2 tk.2 gi gj gk
        have b2 := g_nb hv hs hx (a := k) (b := j) (c := i) hj tk.1 ti.1 tk.2 tj.2 ti.2 gk gj gi
        have b3 := g_nb hv hs hx (a := i) (b := k) (c := j) hk ti.1 tj.1 ti.2 tk.2 tj.2 gi gk gj
        have b4 := g_nb hv hs hx (a := j) (b := k) (c := i) hk tj.1 ti.1 tj.2 tk.2 ti.2 gj gk gi
        have b5 := g_nb hv hs hx (a := j) (b := i) (c := k) hi tj.1 tk.1 tj.2 ti.2 tk.2 gj gi gk
        have b6 := g_nb hv hs hx (a := k) (b := i) (c := j) hi tk.1 tj.1 tk.2 ti.2 tj.2 gk gi gj
        rcases Int.lt_or_gt_of_ne n1 with q1 | q1
        · rcases Int.lt_or_gt_of_ne n2 with q2 | q2
          · exact b2 (by omega) (by omega)
          · rcases Int.lt_or_gt_of_ne n3 with q3 | q3
            · exact b4 (by omega) (by omega)
            · exact b5 (by omega) (by omega)
        · rcases Int.lt_or_gt_of_ne n2 with q2 | q2
          · rcases Int.lt_or_gt_of_ne n3 with q3 | q3
            · exact b6 (by omega) (by omega)
            · exact b3 (by omega) (by omega)
          · exact b1 (by omega) (by omega)
      · exact ⟨k, hk, tk.1, tk.2, gk⟩
    · exact ⟨j, hj, tj.1, tj.2, gj⟩
  · exact ⟨i, hi, ti.1, ti.2, gi⟩
/-- a point of a face that is in no other plane -/
theorem g_inner {kn : Nat → Prop} {A B C D σ : Nat → Int} {n : Nat} {px py pz pq : Nat → Int} (hpos : ∀ i, i < n → 0 < pq i) (hs : gS kn σ) {f g0 : Nat} (hg0 : g0 < 12) (hk0 : kn g0) (hgf : g0 ≠ f)
    (hF : ∀ g, g < 12 → kn g → g ≠ f → ∃ i, i < n ∧ gQ kn A B C D σ (px i) (py i) (pz i) (pq i) ∧ gh A B C D f (px i) (py i) (pz i) (pq i) = 0 ∧ gh A B C D g (px i) (py i) (pz i) (pq i) ≠ 0) (m : Nat) (hm : m ≤ 12) :
    ∃ x y z q : Int, 0 < q ∧ gQ kn A B C D σ x y z q ∧ gh A B C D f x y z q = 0 ∧ ∀ g, g < m → kn g → g ≠ f → gh A B C D g x y z q ≠ 0 := by
  induction m with
  | zero =>
    obtain ⟨i, a1, a2, a3, -⟩ := hF g0 hg0 hk0 hgf
    exact ⟨_, _, _, _, hpos i a1, a2, a3, fun g hg => absurd hg (Nat.not_lt_zero _)⟩
  | succ m ih =>
    obtain ⟨x, y, z, q, h1, h2, h3, h4⟩ := ih (by omega)
    by_cases hc : kn m ∧ m ≠ f
    · obtain ⟨i, a1, a2, a3, a4⟩ := hF m (by omega) hc.1 hc.2
      have hq := hpos i a1
      refine ⟨x + px i, y + py i, z + pz i, q + pq i, by omega, gQ_add h2 a2, by rw [gh_add, h3, a3]; rfl, fun g hg hk hgf => ?_⟩
      rw [gh_add]
      intro h0
      have q1 := h2 g (by omega) hk
      have q2 := a2 g (by omega) hk
      have q3 : σ g * gh A B C D g x y z q + σ g * gh A B C D g (px i) (py i) (pz i) (pq i) = 0 := by rw [← Int.mul_add, h0, Int.mul_zero]
      rcases Nat.lt_succ_iff_lt_or_eq.mp hg with h5 | rfl
      · exact h4 g h5 hk hgf (g_sgn hs (by omega) hk (by omega))
      · exact a4 (g_sgn hs (by omega) hk (by omega))
    · refine ⟨x, y, z, q, h1, h2, h3, fun g hg hk hgf => ?_⟩
      rcases Nat.lt_succ_iff_lt_or_eq.mp hg with h5 | rfl
      · exact h4 g h5 hk hgf
      · exact absurd ⟨hk, hgf⟩ hc
/-- beside a face there is a block -/
theorem g_beside {kn : Nat → Prop} {A B C D σ τ : Nat → Int} {sx sy sz : Int} {n : Nat} {px py pz pq : Nat → Int} (hv : gV kn A B C D sx sy sz n px py pz pq) (hp : gP kn A B C D sx sy sz) (hs : gS kn σ) (ht : gS kn τ) {f : Nat} (hf : f < 12) (hkf : kn f) (h6 : f ≠ 6)
    (hτ : ∀ g, g < 12 → kn g → τ g = if g = f then - σ g else σ g)
    (hF : ∀ g, g < 12 → kn g → g ≠ f → ∃ i, i < n ∧ gQ kn A B C D σ (px i) (py i) (pz i) (pq i) ∧ gh A B C D f (px i) (py i) (pz i) (pq i) = 0 ∧ gh A B C D g (px i) (py i) (pz i) (pq i) ≠ 0)
    (g : Nat) (hg : g < 12) (hkg : kn g) : ∃ i, i < n ∧ gQ kn A B C D τ (px i) (py i) (pz i) (pq i) ∧ gh A B C D g (px i) (py i) (pz i) (pq i) ≠ 0 := by
  -- what is on f is of both
  have hb : ∀ x y z q : Int, gQ kn A B C D σ x y z q → gh A B C D f x y z q = 0 → gQ kn A B C D τ x y z q := by
    intro x y z q h1 h2 g hg hk
    rw [hτ g hg hk]
    split
    · next h => rw [h, h2]; simp
    · exact h1 g hg hk
  by_cases hgf : g = f
  · subst hgf
    obtain ⟨x, y, z, q, h1, h2, h3, h4⟩ := g_inner hv.pos hs (by decide) hp.bx.1 (Ne.symm h6) hF 12 (Nat.le_refl _)
    have hnz := hp.nz g hg hkg
    have hQ := hb _ _ _ _ h2 h3
    have hnn : 0 < A g * A g + B g * B g + C g * C g := by
      have h1 : 0 ≤ A g * A g := by rcases Int.le_total 0 (A g) with h | h; exact Int.mul_nonneg h h; exact Int.mul_nonneg_of_nonpos_of_nonpos h h
      have h2 : 0 ≤ B g * B g := by rcases Int.le_total 0 (B g) with h | h; exact Int.mul_nonneg h h; exact Int.mul_nonneg_of_nonpos_of_nonpos h h
      have h3 : 0 ≤ C g * C g := by rcases Int.le_total 0 (C g) with h | h; exact Int.mul_nonneg h h; exact Int.mul_nonneg_of_nonpos_of_nonpos h h
      have h4 : A g * A g + B g * B g + C g * C g ≠ 0 := fun q => hnz (g_sq q)
      omega
    have hU : ¬ (τ g * A g = 0 ∧ τ g * B g = 0 ∧ τ g * C g = 0) := by
      rintro ⟨z1, z2, z3⟩
      exact hnz ⟨g_sgn ht hg hkg z1, g_sgn ht hg hkg z2, g_sgn ht hg hkg z3⟩
    have htt : τ g * τ g = 1 := by rcases ht.pm g hg hkg with e | e <;> rw [e] <;> rfl
    have hgn : τ g * gn A B C g (τ g * A g) (τ g * B g) (τ g * C g) = A g * A g + B g * B g + C g * C g := by
      simp only [gn]
      have : τ g * (A g * (τ g * A g) + B g * (τ g * B g) + C g * (τ g * C g)) = τ g * τ g * (A g * A g + B g * B g + C g * C g) := by
        generalize A g = a; generalize B g = b; generalize C g = c; generalize τ g = t; grind
      rw [this, htt, Int.one_mul]
    obtain ⟨j, k, t, c1, c2, c3, c4, c5, c55, c6, c7, c8⟩ := g_step (ht.gB hp) hQ hU
    have hjg : j ≠ g := by
      intro e
      rw [e, hgn] at c55
      omega
    have ht0 : 0 < t := by
      have : t ≠ 0 := fun q => h4 j c1 c2 hjg (g_sgn ht c1 c2 (by rw [← c6]; exact q))
      omega
    have hL := Int.mul_pos ht0 hnn
    obtain ⟨i, e1, e2, -, e4⟩ := g_far hv hp ht (l1 := τ g * A g) (l2 := τ g * B g) (l3 := τ g * C g) (l4 := -(τ g * D g)) (Int.mul_pos c3 h1) c8 c1 c2 (by rw [gh_mv]; exact c7) (by
      have e : τ g * A g * (k * x + t * (τ g * A g)) + τ g * B g * (k * y + t * (τ g * B g)) + τ g * C g * (k * z + t * (τ g * C g)) + -(τ g * D g) * (k * q) = τ g * gh A B C D g (k * x + t * (τ g * A g)) (k * y + t * (τ g * B g)) (k * z + t * (τ g * C g)) (k * q) := by
        exact g_id7 _ _ _ _ _ _ _ _ _
      rw [e, gh_mv, h3, Int.mul_zero, Int.zero_add, Int.mul_left_comm, hgn]
      exact hL)
    refine ⟨i, e1, e2, fun h0 => ?_⟩
    have e : τ g * A g * px i + τ g * B g * py i + τ g * C g * pz i + -(τ g * D g) * pq i = τ g * gh A B C D g (px i) (py i) (pz i) (pq i) := by
      exact g_id7 _ _ _ _ _ _ _ _ _
    rw [e, h0] at e4
    simp at e4
  · obtain ⟨i, a1, a2, a3, a4⟩ := hF g hg hkg hgf
    exact ⟨i, a1, hb _ _ _ _ a2 a3, a4⟩
