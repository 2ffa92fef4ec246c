def znr (v : Value) : Bool := match v with
  | .ref _ => false
  | .retAddr _ => false
  | _ => true
theorem znr_ok {v : Value} (h : znr v = true) : (∀ n, zov n v) ∧ ∀ ad, zv ad v = v := by
  cases v <;> first | exact ⟨fun _ => trivial, fun _ => rfl⟩ | (simp [znr] at h)
def zNW (own : String) (idx ci N : Nat) (fs : List Value) : Prop := ∃ (Cn : String) (T : u_T) (ty : Nat → FieldType), zCl[ci]? = some (Cn, T, N) ∧ (∀ w ∈ u_ws Cn T N, w ∈ zT) ∧ (∀ k, k < N → parseFieldDescriptor (T k).2.2.1 = some (ty k)) ∧ Cond.classLink own idx Cn ∈ zT ∧ Cond.instantiable Cn N ∈ zT ∧ Cond.initialized Cn ∈ zT ∧ (∀ j, j < N → defaultValue (ty j) = vp_V fs j) ∧ fs.all znr = true
theorem zI.new {G : zG} {M : zM} {P : Bool} {s : State} {ad0 : Nat → Nat} {n : Nat} {ad : Nat → Nat} {H H1 : Heap} {locs locs1 : List Loc} {ls : Array Slot} {pl : List (Option Value)} {st : List Value} {h : zH} (hI : zI G M P s ad0 n ad H locs ls pl st h) (x : zE) (q : Nat) (y : va_E) (hx : zoc h.length x) (hy : ∀ ad', zc ad' G.tys x = y)
    (hP : va_P G.D zCl (zw ad G.tys h ++ [(q, y)]) H1) (hD : va_D G.A (zw ad G.tys h ++ [(q, y)])) (hS : va_S (zF G P) s.heap H1 locs1) :
    zI G M P s ad0 n (va_up ad h.length q) H1 locs1 ls pl (.ref h.length :: st) (h ++ [x]) ∧ (Value.ref h.length :: st).map (zv (va_up ad h.length q)) = .ref q :: st.map (zv ad) := by
  have hup : ∀ k, k < h.length → va_up ad h.length q k = ad k := fun k hk => by unfold va_up; rw [if_neg (Nat.ne_of_lt hk)]
  have hself : va_up ad h.length q h.length = q := by unfold va_up; rw [if_pos rfl]
  have hlen : (h ++ [x]).length = h.length + 1 := by simp
  refine ⟨⟨fun k hk => (hup k (Nat.lt_of_lt_of_le hk hI.2.1)).trans (hI.1 k hk), by rw [hlen]; exact Nat.le_succ_of_le hI.2.1, ⟨?_, ?_, zoh_push hI.2.2.1.2.2 (zoc_mono (Nat.le_succ _) hx)⟩, hS, ?_, ?_, ?_⟩, ?_⟩
  · rw [zw_push hI.2.2.1.2.2 hup, hself, hy]; exact hP
  · rw [zw_push hI.2.2.1.2.2 hup, hself, hy]; exact hD
  · rw [hlen]; exact fun i v hi => ⟨zov_mono (Nat.le_succ _) (hI.2.2.2.2.1 i v hi).1, (hI.2.2.2.2.1 i v hi).2⟩
  · rw [hlen]; exact zos_c (Nat.lt_succ_self _) (fun v hv => zov_mono (Nat.le_succ _) (hI.s0 v hv))
  · exact zhas_cong hup hI.2.2.2.2.1 hI.2.2.2.2.2.2
  · rw [List.map_cons, zst_cong hup hI.s0]; simp only [zv, hself]
section PWnew
variable {G : zG} {M : zM} {R : Room} {P : Bool} {Q : zO → zH → Prop} {pc : Nat} {pl : List (Option Value)} {st : List Value} {h : zH} {nc ns : Nat}
theorem zX.A {G : zG} {M : zM} {p : Program} {e : Env} {s : State} {m : MethodId} {args : Array Value} {meth : Method} {c : Code} (C : zX G M p e s m args meth c) : ∀ q, s.heap.size ≤ q → G.A q := fun _ hq => Nat.le_trans C.n0 hq
theorem pw_new {idx ci N : Nat} {fs : List Value} (hP : P = false) (hd : decode M.code pc = .ok (.new idx, 3)) (hn : zNW M.nm.cls idx ci N fs) (hc : nc + 1 ≤ R.cells) (hs : ns + N ≤ R.slots) (kk : PW G M R P Q (pc + 3) pl (.ref h.length :: st) (h ++ [.inr (ci, fs)]) (nc + 1) (ns + N)) : PW G M R P Q pc pl st h nc ns := by
  intro p e s m args below meth c ad0 n C ad H locs ls hI
  obtain ⟨Cn, T, ty, h1, h2, h3, h4, h5, h6, h7, h8⟩ := hn
  refine va_new C.exec C.bytes C.ts h2 ty h3 C.own (C.ts _ h4) (C.ts _ h5) (C.ts _ h6) C.K hI.2.2.1.1 hI.2.2.1.2.1 (zS0 hP hI.2.2.2.1) C.A h1 h7 hc hs hd (fun q H1 hP' hD hS => ?_)
  obtain ⟨hI', e1⟩ := hI.new (.inr (ci, fs)) q (.inr (ci, fs)) (fun v hv => (znr_ok (List.all_eq_true.mp h8 v hv)).1 _) (fun ad' => by
    simp only [zc]
    rw [show fs.map (zv ad') = fs from (List.map_congr_left (g := id) fun v hv => (znr_ok (List.all_eq_true.mp h8 v hv)).2 ad').trans (List.map_id fs)]) hP' hD (zS1 hP hS)
  have := kk p e s m args below meth c ad0 n C _ H1 locs ls hI'
  rw [e1] at this
  exact this
theorem zprim {G : zG} {s : State} (hT : G.tys.map Prod.snd = zTys) (hK : va_K G.D zCl G.tys s) {t : Nat} {ty : FieldType} (ht : zTys[t]? = some ty) (hp : ∀ cA, va_RA s cA ty → s.vm.findClass ("[" ++ ty.toString) = some cA) {cA : ClassId} (hK' : va_K G.D zCl (G.tys ++ [(cA, ty)]) s) : cA = (G.tys.getD t (0, .int)).1 := by
  have h1 := hp _ (hK.2 t _ (zTy hT ht)).2
  have h2 := hp _ (hK'.2 G.tys.length (cA, ty) (by simp)).2
  exact Option.some.inj (h2.symm.trans h1)
theorem pw_newarray {atype : ArrayType} {ty : FieldType} {t N : Nat} {ct : (Nat → Int32) ⊕ (Nat → Int64) ⊕ (Nat → UInt32) ⊕ (Nat → UInt64) ⊕ (Nat → Option Nat)} {x : Int32} (hP : P = false) (hd : decode M.code pc = .ok (.newarray atype, 2)) (hty : newarray.typeOf atype = ty) (ht : zTys[t]? = some ty) (hw : Cond.arrayClass ty ∈ zT) (hp : ∀ (s : State) cA, va_RA s cA ty → s.vm.findClass ("[" ++ ty.toString) = some cA) (hx : ¬ x < 0) (hN : x.toNatClampNeg = N) (hb : N * componentBytes ty ≤ 536870912) (ha : ∀ cA : ClassId, vp_cell cA (N, ct) = arrV cA N (fun _ => defaultValue ty)) (hk : ∀ n, zok n (N, ct)) (hk2 : ∀ ad, zk ad (N, ct) = (N, ct)) (hc : nc + 1 ≤ R.cells) (hs : ns + N ≤ R.slots)
    (kk : PW G M R P Q (pc + 2) pl (.ref h.length :: st) (h ++ [.inl (t, N, ct)]) (nc + 1) (ns + N)) : PW G M R P Q pc pl (.int x :: st) h nc ns := by
  intro p e s m args below meth c ad0 n C ad H locs ls hI
  refine va_newa C.exec C.bytes (atype := atype) (by rw [hty]; exact C.ts _ hw) hty C.K hI.2.2.1.1 hI.2.2.1.2.1 (zS0 hP hI.2.2.2.1) C.A ha hx hN hb hc hs hd (fun q cA H1 hK' hP' hD hS => ?_)
  have e0 : cA = (G.tys.getD t (0, .int)).1 := zprim C.tys C.K ht (hp s) hK'
  obtain ⟨hI', e1⟩ := (hI.st (zos_t hI.s0)).new (.inl (t, N, ct)) q (.inl (cA, N, ct)) (hk _) (fun ad' => by simp only [zc]; rw [hk2, ← e0]) hP' hD (zS1 hP hS)
  have := kk p e s m args below meth c ad0 n C _ H1 locs ls hI'
  rw [e1] at this
  exact this
theorem pw_anewarray {idx t N : Nat} {Cn : String} {x : Int32} (hP : P = false) (hd : decode M.code pc = .ok (.anewarray idx, 3)) (ht : zTys[t]? = some (.object Cn)) (hl : Cond.classLink M.nm.cls idx Cn ∈ zT) (hw : ∀ s, zZ G s → va_AO Cn s) (hx : ¬ x < 0) (hN : x.toNatClampNeg = N) (hb : N * 4 ≤ 536870912) (hc : nc + 1 ≤ R.cells) (hs : ns + N ≤ R.slots)
    (kk : PW G M R P Q (pc + 3) pl (.ref h.length :: st) (h ++ [.inl (t, N, .inr (.inr (.inr (.inr (fun _ => none)))))]) (nc + 1) (ns + N)) : PW G M R P Q pc pl (.int x :: st) h nc ns := by
  intro p e s m args below meth c ad0 n C ad H locs ls hI
  refine va_newq C.exec C.bytes C.own (C.ts _ hl) (hw s C.Z) C.K hI.2.2.1.1 hI.2.2.1.2.1 (zS0 hP hI.2.2.2.1) C.A hx hN hb hc hs hd (fun q cA H1 hK' hP' hD hS => ?_)
  have e0 : cA = (G.tys.getD t (0, .int)).1 := zprim C.tys C.K ht (fun cA h => h.choose_spec.choose_spec.2.2.2) hK'
  obtain ⟨hI', e1⟩ := (hI.st (zos_t hI.s0)).new (.inl (t, N, .inr (.inr (.inr (.inr (fun _ => none)))))) q (.inl (cA, N, .inr (.inr (.inr (.inr (fun _ => none)))))) (fun j k h => by cases h) (fun ad' => by simp only [zc, zk, Option.map_none]; rw [← e0]) hP' hD (zS1 hP hS)
  have := kk p e s m args below meth c ad0 n C _ H1 locs ls hI'
  rw [e1] at this
  exact this
end PWnew
