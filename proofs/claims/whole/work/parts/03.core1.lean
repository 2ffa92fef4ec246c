-- the abstract world: cells by their places (0, 1, ..), references are places
abbrev zE : Type := (Nat × vp_A) ⊕ (Nat × List Value)
abbrev zH : Type := List zE
/-- an outcome: returned (with a value), or threw: the class's number in zCl, the exception's place -/
abbrev zO : Type := Option Value ⊕ (Nat × Nat)
/-- launch; classes' numbers and slots; array classes; the heap's size at the law's entry -/
abbrev zG : Type := Launch × va_G × List (ClassId × FieldType) × Nat × Nat × Nat × (Nat → Int32)
abbrev zG.l (G : zG) : Launch := G.1
abbrev zG.D (G : zG) : va_G := G.2.1
abbrev zG.tys (G : zG) : List (ClassId × FieldType) := G.2.2.1
abbrev zG.n0 (G : zG) : Nat := G.2.2.2.1
/-- the script: its address, its length, its entries -/
abbrev zG.b (G : zG) : Nat := G.2.2.2.2.1
abbrev zG.L (G : zG) : Nat := G.2.2.2.2.2.1
abbrev zG.xs (G : zG) : Nat → Int32 := G.2.2.2.2.2.2
abbrev zG.A (G : zG) : Nat → Prop := fun q => G.2.2.2.1 ≤ q
/-- a method: name, code, locals, what it returns -/
abbrev zM : Type := MethodName × ByteArray × Nat × Option FieldType × List (Nat × Nat × Nat × Nat)
abbrev zM.nm (M : zM) : MethodName := M.1
abbrev zM.code (M : zM) : ByteArray := M.2.1
abbrev zM.maxL (M : zM) : Nat := M.2.2.1
abbrev zM.ret (M : zM) : Option FieldType := M.2.2.2.1
abbrev zM.hs (M : zM) : List (Nat × Nat × Nat × Nat) := M.2.2.2.2
def zv (ad : Nat → Nat) (v : Value) : Value := match v with
  | .ref k => .ref (ad k)
  | .retAddr k => .ref k
  | w => w
def zk (ad : Nat → Nat) (a : vp_A) : vp_A := (a.1, match a.2 with
  | .inr (.inr (.inr (.inr f))) => .inr (.inr (.inr (.inr (fun j => (f j).map ad))))
  | x => x)
def zc (ad : Nat → Nat) (tys : List (ClassId × FieldType)) (c : zE) : va_E := match c with
  | .inl q => .inl ((tys.getD q.1 (0, .int)).1, zk ad q.2)
  | .inr q => .inr (q.1, q.2.map (zv ad))
def zw (ad : Nat → Nat) (tys : List (ClassId × FieldType)) (h : zH) : va_W := h.mapIdx (fun k c => (ad k, zc ad tys c))
/-- references are to places below n -/
def zov (n : Nat) (v : Value) : Prop := match v with
  | .ref k => k < n
  | _ => True
def zok (n : Nat) (a : vp_A) : Prop := match a.2 with
  | .inr (.inr (.inr (.inr f))) => ∀ j k, f j = some k → k < n
  | _ => True
def zoc (n : Nat) (c : zE) : Prop := match c with
  | .inl q => zok n q.2
  | .inr q => ∀ v ∈ q.2, zov n v
def zoh (h : zH) : Prop := ∀ (k : Nat) (c : zE), h[k]? = some c → zoc h.length c
def zos (n : Nat) (st : List Value) : Prop := ∀ v ∈ st, zov n v
def zol (n : Nat) (pl : List (Option Value)) : Prop := ∀ (i : Nat) (v : Value), pl[i]? = some (some v) → zov n v ∧ v.category = 1
def zhas (ad : Nat → Nat) (pl : List (Option Value)) (nL : Nat) (ls : Array Slot) : Prop := ls.size = nL ∧ lv_wf ls ∧ ∀ (i : Nat) (v : Value), pl[i]? = some (some v) → ls[i]? = some (.val (zv ad v))
theorem zov_mono {n n' : Nat} (h : n ≤ n') {v : Value} (hv : zov n v) : zov n' v := by
  cases v with
  | ref k => exact Nat.lt_of_lt_of_le hv h
  | _ => trivial
theorem zok_mono {n n' : Nat} (h : n ≤ n') {a : vp_A} (ha : zok n a) : zok n' a := by
  obtain ⟨k, f⟩ := a
  rcases f with f | f | f | f | f <;> simp only [zok] at *
  exact fun j k hk => Nat.lt_of_lt_of_le (ha j k hk) h
theorem zoc_mono {n n' : Nat} (h : n ≤ n') {c : zE} (hc : zoc n c) : zoc n' c := by
  cases c with
  | inl q => exact zok_mono h hc
  | inr q => exact fun v hv => zov_mono h (hc v hv)
theorem zv_cong {n : Nat} {ad ad' : Nat → Nat} (h : ∀ k, k < n → ad' k = ad k) {v : Value} (hv : zov n v) : zv ad' v = zv ad v := by
  cases v <;> simp only [zv]
  simp only [zov] at hv
  rw [h _ hv]
theorem zk_cong {n : Nat} {ad ad' : Nat → Nat} (h : ∀ k, k < n → ad' k = ad k) {a : vp_A} (ha : zok n a) : zk ad' a = zk ad a := by
  obtain ⟨k, f⟩ := a
  rcases f with f | f | f | f | f <;> simp only [zk]
  simp only [zok] at ha
  have e : (fun j => (f j).map ad') = (fun j => (f j).map ad) := by
    funext j
    cases hj : f j with
    | none => rfl
    | some q => simp only [Option.map_some, h q (ha j q hj)]
  rw [e]
theorem zc_cong {n : Nat} {ad ad' : Nat → Nat} {tys : List (ClassId × FieldType)} (h : ∀ k, k < n → ad' k = ad k) {c : zE} (hc : zoc n c) : zc ad' tys c = zc ad tys c := by
  cases c with
  | inl q => simp only [zc]; rw [zk_cong h hc]
  | inr q =>
    simp only [zc]
    have e : q.2.map (zv ad') = q.2.map (zv ad) := List.map_congr_left fun v hv => zv_cong h (hc v hv)
    rw [e]
theorem zst_cong {n : Nat} {ad ad' : Nat → Nat} (h : ∀ k, k < n → ad' k = ad k) {st : List Value} (hs : zos n st) : st.map (zv ad') = st.map (zv ad) := List.map_congr_left fun v hv => zv_cong h (hs v hv)
theorem zhas_cong {n nL : Nat} {ad ad' : Nat → Nat} (h : ∀ k, k < n → ad' k = ad k) {pl : List (Option Value)} {ls : Array Slot} (hp : zol n pl) (hl : zhas ad pl nL ls) : zhas ad' pl nL ls :=
  ⟨hl.1, hl.2.1, fun i v hi => by rw [zv_cong h (hp i v hi).1]; exact hl.2.2 i v hi⟩
theorem zw_len (ad : Nat → Nat) (tys : List (ClassId × FieldType)) (h : zH) : (zw ad tys h).length = h.length := by simp [zw]
theorem zw_get {ad : Nat → Nat} {tys : List (ClassId × FieldType)} {h : zH} {k : Nat} {c : zE} (hk : h[k]? = some c) : (zw ad tys h)[k]? = some (ad k, zc ad tys c) := by
  simp [zw, hk]
theorem zw_at {ad : Nat → Nat} {tys : List (ClassId × FieldType)} {h : zH} {k : Nat} {q : Nat × va_E} (hk : (zw ad tys h)[k]? = some q) : ∃ c, h[k]? = some c ∧ q = (ad k, zc ad tys c) := by
  simp only [zw, List.getElem?_mapIdx, Option.map_eq_some_iff] at hk
  obtain ⟨c, h1, h2⟩ := hk
  exact ⟨c, h1, h2.symm⟩
theorem zw_set {ad : Nat → Nat} {tys : List (ClassId × FieldType)} {h : zH} {k : Nat} {c : zE} : zw ad tys (h.set k c) = (zw ad tys h).set k (ad k, zc ad tys c) := by
  apply List.ext_getElem?
  intro i
  simp only [zw, List.getElem?_mapIdx, List.getElem?_set, List.length_mapIdx]
  by_cases hi : k = i
  · subst hi
    by_cases hl : k < h.length <;> simp [hl]
  · simp [hi]
theorem zw_push {ad ad' : Nat → Nat} {tys : List (ClassId × FieldType)} {h : zH} {c : zE} (ho : zoh h) (hc : ∀ k, k < h.length → ad' k = ad k) : zw ad' tys (h ++ [c]) = zw ad tys h ++ [(ad' h.length, zc ad' tys c)] := by
  simp only [zw, List.mapIdx_concat]
  congr 1
  apply List.ext_getElem?
  intro i
  simp only [List.getElem?_mapIdx]
  cases hi : h[i]? with
  | none => rfl
  | some x =>
    have hl : i < h.length := (List.getElem?_eq_some_iff.mp hi).1
    simp only [Option.map_some, hc i hl, zc_cong hc (ho i x hi)]
theorem zw_cong {ad ad' : Nat → Nat} {tys : List (ClassId × FieldType)} {h : zH} (ho : zoh h) (hc : ∀ k, k < h.length → ad' k = ad k) : zw ad' tys h = zw ad tys h := by
  apply List.ext_getElem?
  intro i
  simp only [zw, List.getElem?_mapIdx]
  cases hi : h[i]? with
  | none => rfl
  | some x =>
    have hl : i < h.length := (List.getElem?_eq_some_iff.mp hi).1
    simp only [Option.map_some, hc i hl, zc_cong hc (ho i x hi)]
theorem zoh_set {h : zH} {k : Nat} {c : zE} (ho : zoh h) (hc : zoc h.length c) : zoh (h.set k c) := by
  intro i x hx
  rw [List.length_set]
  rw [List.getElem?_set] at hx
  by_cases hi : k = i
  · subst hi
    by_cases hl : k < h.length
    · simp [hl] at hx; exact hx ▸ hc
    · simp [hl] at hx
  · simp [hi] at hx; exact ho i x hx
theorem zoh_push {h : zH} {c : zE} (ho : zoh h) (hc : zoc (h.length + 1) c) : zoh (h ++ [c]) := by
  intro i x hx
  rw [List.length_append, List.length_singleton]
  by_cases hi : i < h.length
  · rw [List.getElem?_append_left hi] at hx
    exact zoc_mono (Nat.le_succ _) (ho i x hx)
  · rw [List.getElem?_append_right (Nat.le_of_not_lt hi)] at hx
    have : x ∈ [c] := List.mem_of_getElem? hx
    rw [List.mem_singleton] at this
    subst this
    exact hc
