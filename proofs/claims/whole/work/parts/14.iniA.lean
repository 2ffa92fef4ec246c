theorem ar_newi : Cond.arrayClass .int ∈ zT := zmem 122 (by decide +kernel) rfl
theorem ar_newz : Cond.arrayClass .boolean ∈ zT := zmem 121 (by decide +kernel) rfl
theorem ar_newl : Cond.arrayClass .long ∈ zT := zmem 938 (by decide +kernel) rfl
theorem cl_Hold_9 : Cond.classLink "WedgePlanes$Hold" 9 "WedgePlanes$Arrow" ∈ zT := zmem 30 (by decide +kernel) rfl
theorem cl_WP_16 : Cond.classLink "WedgePlanes" 16 "WedgePlanes$Arrow" ∈ zT := zmem 66 (by decide +kernel) rfl
theorem cl_Rock_9 : Cond.classLink "WedgePlanes$Rock" 9 "WedgePlanes$Plane" ∈ zT := zmem 83 (by decide +kernel) rfl
theorem zp_eq {h h1 : zH} {n : Nat} {c : zE} (e : h1 = h ++ [c]) (hl : h.length = n) : h1[n]? = some c := by
  subst e hl; simp
theorem zp_ne {h h1 : zH} {k : Nat} {c c' : zE} (e : h1 = h ++ [c]) (hk : h[k]? = some c') : h1[k]? = some c' := by
  subst e
  rw [List.getElem?_append_left (List.getElem?_eq_some_iff.mp hk).1]
  exact hk
theorem zp_ln {h h1 : zH} {n : Nat} {c : zE} (e : h1 = h ++ [c]) (hl : h.length = n) : h1.length = n + 1 := by
  subst e hl; simp
theorem zs_ln {h h1 : zH} {n k : Nat} {c : zE} (e : h1 = h.set k c) (hl : h.length = n) : h1.length = n := by
  subst e hl; simp
/-- below a place all is as it was -/
def zlow (n : Nat) (h h' : zH) : Prop := ∀ j, j < n → h'[j]? = h[j]?
theorem zlow_rf {n : Nat} {h : zH} : zlow n h h := fun _ _ => rfl
theorem zlow_tr {n : Nat} {h h1 h2 : zH} (a : zlow n h h1) (b : zlow n h1 h2) : zlow n h h2 := fun j hj => (b j hj).trans (a j hj)
theorem zlow_p {n m : Nat} {h h1 h2 : zH} {c : zE} (a : zlow n h h1) (e : h2 = h1 ++ [c]) (hl : h1.length = m) (hm : n ≤ m) : zlow n h h2 := fun j hj => by
  subst e
  rw [List.getElem?_append_left (by omega)]
  exact a j hj
theorem zlow_s {n k : Nat} {h h1 h2 : zH} {c : zE} (a : zlow n h h1) (e : h2 = h1.set k c) (hk : n ≤ k) : zlow n h h2 := fun j hj => by
  subst e
  rw [List.getElem?_set_ne (by omega)]
  exact a j hj
theorem zlow_z {n : Nat} {S : List Nat} {h h1 h2 : zH} (a : zlow n h h1) (e : zsm S h1 h2) (hS : ∀ j, j < n → j ∉ S) : zlow n h h2 := fun j hj => (e.2 j (hS j hj)).trans (a j hj)
theorem zlow_w {n m : Nat} {h h1 : zH} (a : zlow n h h1) (hm : m ≤ n) : zlow m h h1 := fun j hj => a j (by omega)
theorem zlow_at {n k : Nat} {h h1 : zH} {c : zE} (a : zlow n h h1) (hk : k < n) (hc : h[k]? = some c) : h1[k]? = some c := (a k hk).trans hc
section PWini
variable {G : zG} {M : zM} {R : Room} {P : Bool} {Q : zO → zH → Prop} {pc : Nat} {pl : List (Option Value)} {st : List Value} {h : zH} {nc ns : Nat}
theorem pw_newi {N : Nat} {x : Int32} (hP : P = false) (hd : decode M.code pc = .ok (.newarray .int, 2)) (hx : ¬ x < 0) (hN : x.toNatClampNeg = N) (hb : N * componentBytes .int ≤ 536870912) (hc : nc + 1 ≤ R.cells) (hs : ns + N ≤ R.slots) {n : Nat} (hln : h.length = n) {h2 : zH} (h2e : h2 = h ++ [.inl (0, N, .inl (fun _ => 0))]) (kk : PW G M R P Q (pc + 2) pl (.ref n :: st) h2 (nc + 1) (ns + N)) : PW G M R P Q pc pl (.int x :: st) h nc ns := by
  subst h2e hln
  exact pw_newarray (t := 0) (ct := .inl (fun _ => 0)) hP hd rfl rfl ar_newi (fun s cA h => h) hx hN hb (fun cA => rfl) (fun n => trivial) (fun ad => rfl) hc hs kk
theorem pw_newz {N : Nat} {x : Int32} (hP : P = false) (hd : decode M.code pc = .ok (.newarray .boolean, 2)) (hx : ¬ x < 0) (hN : x.toNatClampNeg = N) (hb : N * componentBytes .boolean ≤ 536870912) (hc : nc + 1 ≤ R.cells) (hs : ns + N ≤ R.slots) {n : Nat} (hln : h.length = n) {h2 : zH} (h2e : h2 = h ++ [.inl (1, N, .inl (fun _ => 0))]) (kk : PW G M R P Q (pc + 2) pl (.ref n :: st) h2 (nc + 1) (ns + N)) : PW G M R P Q pc pl (.int x :: st) h nc ns := by
  subst h2e hln
  exact pw_newarray (t := 1) (ct := .inl (fun _ => 0)) hP hd rfl rfl ar_newz (fun s cA h => h) hx hN hb (fun cA => rfl) (fun n => trivial) (fun ad => rfl) hc hs kk
theorem pw_newl {N : Nat} {x : Int32} (hP : P = false) (hd : decode M.code pc = .ok (.newarray .long, 2)) (hx : ¬ x < 0) (hN : x.toNatClampNeg = N) (hb : N * componentBytes .long ≤ 536870912) (hc : nc + 1 ≤ R.cells) (hs : ns + N ≤ R.slots) {n : Nat} (hln : h.length = n) {h2 : zH} (h2e : h2 = h ++ [.inl (2, N, .inr (.inl (fun _ => 0)))]) (kk : PW G M R P Q (pc + 2) pl (.ref n :: st) h2 (nc + 1) (ns + N)) : PW G M R P Q pc pl (.int x :: st) h nc ns := by
  subst h2e hln
  exact pw_newarray (t := 2) (ct := .inr (.inl (fun _ => 0))) hP hd rfl rfl ar_newl (fun s cA h => h) hx hN hb (fun cA => rfl) (fun n => trivial) (fun ad => rfl) hc hs kk
theorem pw_anewA {idx N : Nat} {x : Int32} (hP : P = false) (hd : decode M.code pc = .ok (.anewarray idx, 3)) (hl : Cond.classLink M.nm.cls idx "WedgePlanes$Arrow" ∈ zT) (hx : ¬ x < 0) (hN : x.toNatClampNeg = N) (hb : N * 4 ≤ 536870912) (hc : nc + 1 ≤ R.cells) (hs : ns + N ≤ R.slots) {n : Nat} (hln : h.length = n) {h2 : zH} (h2e : h2 = h ++ [.inl (3, N, .inr (.inr (.inr (.inr (fun _ => none)))))]) (kk : PW G M R P Q (pc + 3) pl (.ref n :: st) h2 (nc + 1) (ns + N)) : PW G M R P Q pc pl (.int x :: st) h nc ns := by
  subst h2e hln
  exact pw_anewarray (t := 3) (Cn := "WedgePlanes$Arrow") hP hd rfl hl (fun s z => z.2.2.2.2.2.1) hx hN hb hc hs kk
theorem pw_anewP {idx N : Nat} {x : Int32} (hP : P = false) (hd : decode M.code pc = .ok (.anewarray idx, 3)) (hl : Cond.classLink M.nm.cls idx "WedgePlanes$Plane" ∈ zT) (hx : ¬ x < 0) (hN : x.toNatClampNeg = N) (hb : N * 4 ≤ 536870912) (hc : nc + 1 ≤ R.cells) (hs : ns + N ≤ R.slots) {n : Nat} (hln : h.length = n) {h2 : zH} (h2e : h2 = h ++ [.inl (4, N, .inr (.inr (.inr (.inr (fun _ => none)))))]) (kk : PW G M R P Q (pc + 3) pl (.ref n :: st) h2 (nc + 1) (ns + N)) : PW G M R P Q pc pl (.int x :: st) h nc ns := by
  subst h2e hln
  exact pw_anewarray (t := 4) (Cn := "WedgePlanes$Plane") hP hd rfl hl (fun s z => z.2.2.2.2.2.2.1) hx hN hb hc hs kk
theorem pw_newo {idx ci N : Nat} {fs : List Value} (hP : P = false) (hd : decode M.code pc = .ok (.new idx, 3)) (hn : zNW M.nm.cls idx ci N fs) (hc : nc + 1 ≤ R.cells) (hs : ns + N ≤ R.slots) {n : Nat} (hln : h.length = n) {h2 : zH} (h2e : h2 = h ++ [.inr (ci, fs)]) (kk : PW G M R P Q (pc + 3) pl (.ref n :: st) h2 (nc + 1) (ns + N)) : PW G M R P Q pc pl st h nc ns := by
  subst h2e hln
  exact pw_new hP hd hn hc hs kk
end PWini
theorem zset_self {h : zH} {k : Nat} {c : zE} (hk : h[k]? = some c) : h.set k c = h := by
  obtain ⟨hl, e⟩ := List.getElem?_eq_some_iff.mp hk
  rw [← e]; exact List.set_getElem_self hl
theorem c_Arrow_init {G : zG} {h : zH} {k : Nat} (hk : h[k]? = some (.inr (0, [.int 0, .int 0, .int 0]))) : PW G M_Arrow_init (zroom 1 0 0) false (zr none h) 0 (zentry 1 [.ref k]) [] h 0 0 := by
  show PW G M_Arrow_init (zroom 1 0 0) false _ 0 [some (.ref k)] [] h 0 0
  refine pw_aload_n d_Arrow_init_0 rfl rfl ?_
  refine pw_objInit d_Arrow_init_1 lk_Arrow_1 (by decide) (by decide) ?_
  refine pw_aload_n d_Arrow_init_4 rfl rfl ?_
  refine pw_iconst (x := 0) d_Arrow_init_5 (by decide) ?_
  refine pw_put (h2 := h) rfl d_Arrow_init_6 (fp_Arrow_7 _ _) hk (Nat.le_of_ble_eq_true rfl) (fun _ => ⟨rfl, rfl⟩) (zset_self hk) ?_
  refine pw_aload_n d_Arrow_init_9 rfl rfl ?_
  refine pw_iconst (x := 0) d_Arrow_init_10 (by decide) ?_
  refine pw_put (h2 := h) rfl d_Arrow_init_11 (fp_Arrow_13 _ _) hk (Nat.le_of_ble_eq_true rfl) (fun _ => ⟨rfl, rfl⟩) (zset_self hk) ?_
  refine pw_aload_n d_Arrow_init_14 rfl rfl ?_
  refine pw_iconst (x := 0) d_Arrow_init_15 (by decide) ?_
  refine pw_put (h2 := h) rfl d_Arrow_init_16 (fp_Arrow_16 _ _) hk (Nat.le_of_ble_eq_true rfl) (fun _ => ⟨rfl, rfl⟩) (zset_self hk) ?_
  refine pw_return d_Arrow_init_19 rfl (by decide) (by decide) ?_
  exact ⟨rfl, rfl⟩
section PWarr
variable {G : zG} {M : zM} {R : Room} {P : Bool} {Q : zO → zH → Prop} {pc : Nat} {pl : List (Option Value)} {st : List Value} {h : zH} {nc ns : Nat}
/-- new Arrow() -/
theorem pw_arrow {i0 i4 n : Nat} (hP : P = false) (hd0 : decode M.code pc = .ok (.new i0, 3)) (hd3 : decode M.code (pc + 3) = .ok (.dup, 1)) (hd4 : decode M.code (pc + 3 + 1) = .ok (.invokespecial i4, 3)) (hn : zNW M.nm.cls i0 0 3 [.int 0, .int 0, .int 0]) (hl : zLI M.nm.cls i4 M_Arrow_init 0) (hf : 2 ≤ R.frames) (hlo : 64 ≤ R.locals) (hc : nc + 1 ≤ R.cells) (hs : ns + 3 ≤ R.slots) (hw : (st.map fun v => v.category).sum ≤ 7) (hln : h.length = n) {h2 : zH} (h2e : h2 = h ++ [.inr (0, [.int 0, .int 0, .int 0])])
    (kk : PW G M R P Q (pc + 3 + 1 + 3) pl (.ref n :: st) h2 (nc + 1) (ns + 3)) : PW G M R P Q pc pl st h nc ns := by
  subst hln
  refine pw_newo hP hd0 hn hc hs rfl h2e ?_
  refine pw_dup hd3 rfl ?_
  refine pw_callI (R' := zroom 1 0 0) (P' := false) [] (fun q => by rw [hP] at q; cases q) hd4 hl rfl (fun v hv => by cases hv) (by decide) ⟨hf, ?_, hc, hs⟩ ?_ (c_Arrow_init (zp_eq h2e rfl)) zr_ret (fun v h' q => ?_)
  · show 8 + (1 + 11) + 32 ≤ R.locals; omega
  · show 1 + (st.map fun v => v.category).sum ≤ 8; omega
  · obtain ⟨e1, rfl⟩ := q
    cases e1
    exact kk
end PWarr
def zUp (b i : Nat) : Nat → Option Nat := fun j => if j < i then some (b + 2 * j) else none
theorem zUp_0 {b : Nat} : (fun _ : Nat => (none : Option Nat)) = zUp b 0 := by
  funext j; unfold zUp; rw [if_neg (Nat.not_lt_zero _)]
theorem zUp_s {b i y : Nat} (hy : y = b + 2 * i) : va_up (zUp b i) i (some y) = zUp b (i + 1) := by
  subst hy
  funext j
  unfold va_up zUp
  by_cases e : j = i
  · subst e; rw [if_pos rfl, if_pos (Nat.lt_succ_self _)]
  · rw [if_neg e]
    by_cases q : j < i
    · rw [if_pos q, if_pos (by omega)]
    · rw [if_neg q, if_neg (by omega)]
def zUq (b i : Nat) : Nat → Option Nat := fun j => if j < i then some (b + j) else none
theorem zUq_0 {b : Nat} : (fun _ : Nat => (none : Option Nat)) = zUq b 0 := by
  funext j; unfold zUq; rw [if_neg (Nat.not_lt_zero _)]
theorem zUq_s {b i y : Nat} (hy : y = b + i) : va_up (zUq b i) i (some y) = zUq b (i + 1) := by
  subst hy
  funext j
  unfold va_up zUq
  by_cases e : j = i
  · subst e; rw [if_pos rfl, if_pos (Nat.lt_succ_self _)]
  · rw [if_neg e]
    by_cases q : j < i
    · rw [if_pos q, if_pos (by omega)]
    · rw [if_neg q, if_neg (by omega)]
