theorem zg_eq {h h1 : zH} {k : Nat} {c c0 : zE} (e : h1 = h.set k c) (hk : h[k]? = some c0) : h1[k]? = some c := by
  have hl : k < h.length := (List.getElem?_eq_some_iff.mp hk).1
  subst e
  simp [hl]
theorem zg_ne {h h1 : zH} {k j : Nat} {c cj : zE} (e : h1 = h.set k c) (hne : k ≠ j) (hj : h[j]? = some cj) : h1[j]? = some cj := by
  subst e
  rw [List.getElem?_set_ne hne]
  exact hj
section PWn
variable {G : zG} {M : zM} {R : Room} {P : Bool} {Q : zO → zH → Prop} {pc : Nat} {pl : List (Option Value)} {st : List Value} {h : zH} {nc ns : Nat}
theorem pw_iald {k t len j : Nat} {f : Nat → Int32} {i : Int32} (hd : decode M.code pc = .ok (.iaload, 1)) (hh : h[k]? = some (.inl (t, len, .inl f))) (ht : zTys[t]? = some .int) (hi : i = nI j) (hj : j < len) (hl : len < 2 ^ 31) (kk : PW G M R P Q (pc + 1) pl (.int (f j) :: st) h nc ns) : PW G M R P Q pc pl (.int i :: .ref k :: st) h nc ns := by
  subst hi
  exact pw_iaload hd hh ht (vp_in_nI hj hl) (by rw [nI_clamp (Nat.lt_trans hj hl)]; exact kk)
theorem pw_zald {k t len j : Nat} {f : Nat → Int32} {i : Int32} (hd : decode M.code pc = .ok (.baload, 1)) (hh : h[k]? = some (.inl (t, len, .inl f))) (ht : zTys[t]? = some .boolean) (hi : i = nI j) (hj : j < len) (hl : len < 2 ^ 31) (kk : PW G M R P Q (pc + 1) pl (.int (f j) :: st) h nc ns) : PW G M R P Q pc pl (.int i :: .ref k :: st) h nc ns := by
  subst hi
  exact pw_zaload hd hh ht (vp_in_nI hj hl) (by rw [nI_clamp (Nat.lt_trans hj hl)]; exact kk)
theorem pw_aald {k t len j y : Nat} {Cn : String} {f : Nat → Option Nat} {i : Int32} (hd : decode M.code pc = .ok (.aaload, 1)) (hh : h[k]? = some (.inl (t, len, .inr (.inr (.inr (.inr f)))))) (ht : zTys[t]? = some (.object Cn)) (hi : i = nI j) (hj : j < len) (hl : len < 2 ^ 31) (hy : f j = some y) (kk : PW G M R P Q (pc + 1) pl (.ref y :: st) h nc ns) : PW G M R P Q pc pl (.int i :: .ref k :: st) h nc ns := by
  subst hi
  exact pw_aaload hd hh ht (vp_in_nI hj hl) (by rw [nI_clamp (Nat.lt_trans hj hl)]; exact hy) kk
theorem pw_iast {k t len j : Nat} {f : Nat → Int32} {i x : Int32} (hP : P = false) (hd : decode M.code pc = .ok (.iastore, 1)) (hh : h[k]? = some (.inl (t, len, .inl f))) (ht : zTys[t]? = some .int) (hi : i = nI j) (hj : j < len) (hl : len < 2 ^ 31) {h2 : zH} (h2e : h.set k (.inl (t, len, .inl (upd f j x))) = h2) (kk : PW G M R P Q (pc + 1) pl st h2 nc ns) : PW G M R P Q pc pl (.int x :: .int i :: .ref k :: st) h nc ns := by
  subst hi
  exact pw_iastore hP hd hh ht (vp_in_nI hj hl) (by rw [nI_clamp (Nat.lt_trans hj hl)]; exact h2e) kk
theorem zz01 {x : Int32} (hx : x = 0 ∨ x = 1) : vp_nar .boolean x = x := by rcases hx with rfl | rfl <;> rfl
theorem pw_zast {k t len j : Nat} {f : Nat → Int32} {i x : Int32} (hP : P = false) (hd : decode M.code pc = .ok (.bastore, 1)) (hh : h[k]? = some (.inl (t, len, .inl f))) (ht : zTys[t]? = some .boolean) (hi : i = nI j) (hj : j < len) (hl : len < 2 ^ 31) (hx : x = 0 ∨ x = 1) {h2 : zH} (h2e : h.set k (.inl (t, len, .inl (upd f j x))) = h2) (kk : PW G M R P Q (pc + 1) pl st h2 nc ns) : PW G M R P Q pc pl (.int x :: .int i :: .ref k :: st) h nc ns := by
  subst hi
  exact pw_zastore hP hd hh ht (vp_in_nI hj hl) (by rw [nI_clamp (Nat.lt_trans hj hl), zz01 hx]; exact h2e) kk
theorem pw_aast {k t len y ci j : Nat} {r : vw_C} {vs : List Value} {f : Nat → Option Nat} {i : Int32} (hP : P = false) (hd : decode M.code pc = .ok (.aastore, 1)) (hh : h[k]? = some (.inl (t, len, .inr (.inr (.inr (.inr f)))))) (hy : h[y]? = some (.inr (ci, vs))) (hc : zCl[ci]? = some r) (ht : zTys[t]? = some (.object r.1)) (hi : i = nI j) (hj : j < len) (hl : len < 2 ^ 31) {h2 : zH} (h2e : h.set k (.inl (t, len, .inr (.inr (.inr (.inr (va_up f j (some y))))))) = h2) (kk : PW G M R P Q (pc + 1) pl st h2 nc ns) : PW G M R P Q pc pl (.ref y :: .int i :: .ref k :: st) h nc ns := by
  subst hi
  exact pw_aastore hP hd hh hy hc ht (vp_in_nI hj hl) (by rw [nI_clamp (Nat.lt_trans hj hl)]; exact h2e) kk
end PWn
