/-- a field, as the method's class links it: class number ci, place j -/
def zFL (own : String) (idx ci j : Nat) : Prop := ∃ (C : String) (T : u_T) (N : Nat), zCl[ci]? = some (C, T, N) ∧ (∀ w ∈ u_ws C T N, w ∈ zT) ∧ j < N ∧ Cond.fieldLink own idx (T j).1 (T j).2.1 (T j).2.2.1 ∈ zT
/-- the same for writing: its type; final fields only in the constructor of their class -/
def zFP (nm : MethodName) (idx ci j : Nat) (ty : FieldType) : Prop := ∃ (C : String) (T : u_T) (N : Nat) (ty0 : Nat → FieldType), zCl[ci]? = some (C, T, N) ∧ (∀ w ∈ u_ws C T N, w ∈ zT) ∧ j < N ∧ (∀ k, k < N → parseFieldDescriptor (T k).2.2.1 = some (ty0 k)) ∧ (∀ a, a < N → ∀ b, b < N → a ≠ b → (T a).2.1 ≠ (T b).2.1) ∧ parseFieldDescriptor (T j).2.2.1 = some ty ∧
  Cond.fieldLink nm.cls idx (T j).1 (T j).2.1 (T j).2.2.1 ∈ zT ∧ ((T j).2.2.2 = false ∨ ((T j).2.2.2 = true ∧ nm.name = "<init>" ∧ (T j).1 = nm.cls))
theorem zX.exec {G : zG} {M : zM} {p : Program} {e : Env} {s : State} {m : MethodId} {args : Array Value} {meth : Method} {c : Code} (C : zX G M p e s m args meth c) : p.tables.exec = Jvm.exec := C.1
theorem zX.bytes {G : zG} {M : zM} {p : Program} {e : Env} {s : State} {m : MethodId} {args : Array Value} {meth : Method} {c : Code} (C : zX G M p e s m args meth c) : c.code = M.code := C.2.1
theorem zX.ret {G : zG} {M : zM} {p : Program} {e : Env} {s : State} {m : MethodId} {args : Array Value} {meth : Method} {c : Code} (C : zX G M p e s m args meth c) : meth.sig.returnType = M.ret := C.2.2.1
theorem zX.maxL {G : zG} {M : zM} {p : Program} {e : Env} {s : State} {m : MethodId} {args : Array Value} {meth : Method} {c : Code} (C : zX G M p e s m args meth c) : c.maxLocals = M.maxL := C.2.2.2.1
theorem zX.own {G : zG} {M : zM} {p : Program} {e : Env} {s : State} {m : MethodId} {args : Array Value} {meth : Method} {c : Code} (C : zX G M p e s m args meth c) : s.vm.findClass M.nm.cls = some m.cls := C.2.2.2.2.1
theorem zX.ts {G : zG} {M : zM} {p : Program} {e : Env} {s : State} {m : MethodId} {args : Array Value} {meth : Method} {c : Code} (C : zX G M p e s m args meth c) : ∀ w ∈ zT, w.before args s = true := C.2.2.2.2.2.1
theorem zX.locks {G : zG} {M : zM} {p : Program} {e : Env} {s : State} {m : MethodId} {args : Array Value} {meth : Method} {c : Code} (C : zX G M p e s m args meth c) : meth.locks = false := C.2.2.2.2.2.2.1
theorem zX.K {G : zG} {M : zM} {p : Program} {e : Env} {s : State} {m : MethodId} {args : Array Value} {meth : Method} {c : Code} (C : zX G M p e s m args meth c) : va_K G.D zCl G.tys s := C.2.2.2.2.2.2.2.1
theorem zX.n0 {G : zG} {M : zM} {p : Program} {e : Env} {s : State} {m : MethodId} {args : Array Value} {meth : Method} {c : Code} (C : zX G M p e s m args meth c) : G.n0 ≤ s.heap.size := C.2.2.2.2.2.2.2.2.1
theorem zX.name {G : zG} {M : zM} {p : Program} {e : Env} {s : State} {m : MethodId} {args : Array Value} {meth : Method} {c : Code} (C : zX G M p e s m args meth c) : meth.name = M.nm.name := C.2.2.2.2.2.2.2.2.2.1
theorem zX.tys {G : zG} {M : zM} {p : Program} {e : Env} {s : State} {m : MethodId} {args : Array Value} {meth : Method} {c : Code} (C : zX G M p e s m args meth c) : G.tys.map Prod.snd = zTys := C.2.2.2.2.2.2.2.2.2.2.2.1
theorem zX.Z {G : zG} {M : zM} {p : Program} {e : Env} {s : State} {m : MethodId} {args : Array Value} {meth : Method} {c : Code} (C : zX G M p e s m args meth c) : zZ G s := C.2.2.2.2.2.2.2.2.2.2.2
theorem zX.tab {G : zG} {M : zM} {p : Program} {e : Env} {s : State} {m : MethodId} {args : Array Value} {meth : Method} {c : Code} (C : zX G M p e s m args meth c) : c.exceptionTable.toList.map (fun h => (h.startPc, h.endPc, h.handlerPc, h.catchType)) = M.hs := C.2.2.2.2.2.2.2.2.2.2.1
theorem zTy {tys : List (ClassId × FieldType)} (h : tys.map Prod.snd = zTys) {t : Nat} {ty : FieldType} (ht : zTys[t]? = some ty) : tys[t]? = some ((tys.getD t (0, .int)).1, ty) := by
  rw [← h, List.getElem?_map, Option.map_eq_some_iff] at ht
  obtain ⟨q, h1, h2⟩ := ht
  rw [List.getD_eq_getElem?_getD, h1]
  simp only [Option.getD_some, ← h2]
theorem zI.set {G : zG} {M : zM} {P : Bool} {s : State} {ad0 : Nat → Nat} {n : Nat} {ad : Nat → Nat} {H H1 : Heap} {locs locs1 : List Loc} {ls : Array Slot} {pl : List (Option Value)} {st st' : List Value} {h : zH} (hI : zI G M P s ad0 n ad H locs ls pl st h) (k : Nat) (x : zE) (hx : zoc h.length x) (hs : zos h.length st')
    (hP : va_P G.D zCl ((zw ad G.tys h).set k (ad k, zc ad G.tys x)) H1) (hD : va_D G.A ((zw ad G.tys h).set k (ad k, zc ad G.tys x))) (hS : va_S (zF G P) s.heap H1 locs1) : zI G M P s ad0 n ad H1 locs1 ls pl st' (h.set k x) := by
  refine ⟨hI.1, by rw [List.length_set]; exact hI.2.1, ⟨by rw [zw_set]; exact hP, by rw [zw_set]; exact hD, zoh_set hI.2.2.1.2.2 hx⟩, hS, ?_, ?_, hI.2.2.2.2.2.2⟩
  · rw [List.length_set]; exact hI.2.2.2.2.1
  · rw [List.length_set]; exact hs
section PWheap
variable {G : zG} {M : zM} {R : Room} {P : Bool} {Q : zO → zH → Prop} {pc : Nat} {pl : List (Option Value)} {st : List Value} {h : zH} {nc ns : Nat}
theorem pw_get {k j ci idx : Nat} {fs : List Value} {v : Value} (hd : decode M.code pc = .ok (.getfield idx, 3)) (hf : zFL M.nm.cls idx ci j) (hh : h[k]? = some (.inr (ci, fs))) (hv : fs[j]? = some v) (kk : PW G M R P Q (pc + 3) pl (v :: st) h nc ns) : PW G M R P Q pc pl (.ref k :: st) h nc ns := by
  intro p e s m args below meth c ad0 n C ad H locs ls hI
  obtain ⟨Cn, T, N, hc, hin, hj, hl⟩ := hf
  have hv' : (fs.map (zv ad))[j]? = some (zv ad v) := by simp [hv]
  have hov : zov h.length v := (hI.2.2.1.2.2 _ _ hh : zoc _ _) v (List.mem_of_getElem? hv)
  have kk' := kk p e s m args below meth c ad0 n C ad H locs ls (hI.st (zos_c hov (zos_t hI.s0)))
  exact va_get C.exec C.bytes C.ts hin C.own C.K hI.2.2.1.1 k (zw_get hh) hc j hj (C.ts _ hl) (fun _ q => q) hv' hd kk'
theorem pw_put {k j ci idx : Nat} {fs : List Value} {v : Value} {ty : FieldType} (hP : P = false) (hd : decode M.code pc = .ok (.putfield idx, 3)) (hf : zFP M.nm idx ci j ty) (hh : h[k]? = some (.inr (ci, fs))) (hj : j < fs.length) (hv : ∀ ad, narrow ty (zv ad v) = zv ad v ∧ fits ty (zv ad v) = true) {h2 : zH} (h2e : h.set k (.inr (ci, fs.set j v)) = h2) (kk : PW G M R P Q (pc + 3) pl st h2 nc ns) : PW G M R P Q pc pl (v :: .ref k :: st) h nc ns := by
  subst h2e
  intro p e s m args below meth c ad0 n C ad H locs ls hI
  obtain ⟨Cn, T, N, ty0, hc, hin, hjN, hty, hnm, hty1, hl⟩ := hf
  have hlen : j < (fs.map (zv ad)).length := by simpa using hj
  have hx : zoc h.length (.inr (ci, fs.set j v)) := fun w hw => by
    rcases List.mem_or_eq_of_mem_set hw with h1 | h1
    · exact (hI.2.2.1.2.2 _ _ hh : zoc _ _) w h1
    · rw [h1]; exact zos_h hI.s0
  have kk' : ∀ (H1 : Heap) (locs1 : List Loc), va_P G.D zCl ((zw ad G.tys h).set k (ad k, .inr (ci, (fs.map (zv ad)).set j (zv ad v)))) H1 → va_D G.A ((zw ad G.tys h).set k (ad k, .inr (ci, (fs.map (zv ad)).set j (zv ad v)))) → va_S G.A s.heap H1 locs1 → W p G.l e R s m args below meth c H1 locs1 nc ns (zEnd G P below s R.cells R.slots (zQ G ad0 n Q)) (F0 m (pc + 3) ls (st.map (zv ad))) := by
    intro H1 locs1 hP' hD hS
    refine kk p e s m args below meth c ad0 n C ad H1 locs1 ls (hI.set k (.inr (ci, fs.set j v)) hx (zos_t (zos_t hI.s0)) ?_ ?_ (zS1 hP hS))
    · simp only [zc, List.map_set]; exact hP'
    · simp only [zc, List.map_set]; exact hD
  obtain ⟨hl, hf0 | ⟨hf1, hf2, hf3⟩⟩ := hl
  · exact va_put C.exec C.bytes C.ts hin ty0 hty hnm C.own C.K hI.2.2.1.1 hI.2.2.1.2.1 (zS0 hP hI.2.2.2.1) k (zw_get hh) hc j hjN (C.ts _ hl) (fun _ q => q) hf0 hty1 (hv ad).1 (hv ad).2 hlen hd kk'
  · exact va_putF C.exec C.bytes C.ts hin ty0 hty hnm C.own C.K hI.2.2.1.1 hI.2.2.1.2.1 (zS0 hP hI.2.2.2.1) k (zw_get hh) hc j hjN (C.ts _ hl) (fun _ q => q) hf1 (C.name.trans hf2) hf3 hty1 (hv ad).1 (hv ad).2 hlen hd kk'

theorem pw_iaload {k t len : Nat} {f : Nat → Int32} {i : Int32} (hd : decode M.code pc = .ok (.iaload, 1)) (hh : h[k]? = some (.inl (t, len, .inl f))) (ht : zTys[t]? = some .int) (hi : vp_in i len) (kk : PW G M R P Q (pc + 1) pl (.int (f i.toNatClampNeg) :: st) h nc ns) : PW G M R P Q pc pl (.int i :: .ref k :: st) h nc ns := by
  intro p e s m args below meth c ad0 n C ad H locs ls hI
  exact va_iald C.exec C.bytes C.K hI.2.2.1.1 k t (zw_get hh) (zTy C.tys ht) hi hd (kk p e s m args below meth c ad0 n C ad H locs ls (hI.st (zos_c trivial (zos_t (zos_t hI.s0)))))
theorem pw_zaload {k t len : Nat} {f : Nat → Int32} {i : Int32} (hd : decode M.code pc = .ok (.baload, 1)) (hh : h[k]? = some (.inl (t, len, .inl f))) (ht : zTys[t]? = some .boolean) (hi : vp_in i len) (kk : PW G M R P Q (pc + 1) pl (.int (f i.toNatClampNeg) :: st) h nc ns) : PW G M R P Q pc pl (.int i :: .ref k :: st) h nc ns := by
  intro p e s m args below meth c ad0 n C ad H locs ls hI
  exact va_zald C.exec C.bytes C.K hI.2.2.1.1 k t (zw_get hh) (zTy C.tys ht) hi hd (kk p e s m args below meth c ad0 n C ad H locs ls (hI.st (zos_c trivial (zos_t (zos_t hI.s0)))))
theorem pw_laload {k t len : Nat} {f : Nat → Int64} {i : Int32} (hd : decode M.code pc = .ok (.laload, 1)) (hh : h[k]? = some (.inl (t, len, .inr (.inl f)))) (ht : zTys[t]? = some .long) (hi : vp_in i len) (kk : PW G M R P Q (pc + 1) pl (.long (f i.toNatClampNeg) :: st) h nc ns) : PW G M R P Q pc pl (.int i :: .ref k :: st) h nc ns := by
  intro p e s m args below meth c ad0 n C ad H locs ls hI
  exact va_lald C.exec C.bytes C.K hI.2.2.1.1 k t (zw_get hh) (zTy C.tys ht) hi hd (kk p e s m args below meth c ad0 n C ad H locs ls (hI.st (zos_c trivial (zos_t (zos_t hI.s0)))))
theorem pw_aaload {k t len y : Nat} {Cn : String} {f : Nat → Option Nat} {i : Int32} (hd : decode M.code pc = .ok (.aaload, 1)) (hh : h[k]? = some (.inl (t, len, .inr (.inr (.inr (.inr f)))))) (ht : zTys[t]? = some (.object Cn)) (hi : vp_in i len) (hy : f i.toNatClampNeg = some y) (kk : PW G M R P Q (pc + 1) pl (.ref y :: st) h nc ns) : PW G M R P Q pc pl (.int i :: .ref k :: st) h nc ns := by
  intro p e s m args below meth c ad0 n C ad H locs ls hI
  have ho : y < h.length := (hI.2.2.1.2.2 _ _ hh : zoc _ _) _ _ hy
  have kk' := kk p e s m args below meth c ad0 n C ad H locs ls (hI.st (zos_c (show zov _ (.ref y) from ho) (zos_t (zos_t hI.s0))))
  refine va_aldq C.exec C.bytes C.K hI.2.2.1.1 k t (zw_get hh) (zTy C.tys ht) hi hd ?_
  show W _ _ _ _ _ _ _ _ _ _ _ _ _ _ _ (F0 m (pc + 1) ls (va_rf ((f i.toNatClampNeg).map ad) :: st.map (zv ad)))
  rw [hy]
  exact kk' 
theorem pw_iastore {k t len : Nat} {f : Nat → Int32} {i : Int32} {x : Int32} (hP : P = false) (hd : decode M.code pc = .ok (.iastore, 1)) (hh : h[k]? = some (.inl (t, len, .inl f))) (ht : zTys[t]? = some .int) (hi : vp_in i len) {h2 : zH} (h2e : h.set k (.inl (t, len, .inl (upd f i.toNatClampNeg x))) = h2) (kk : PW G M R P Q (pc + 1) pl st h2 nc ns) : PW G M R P Q pc pl (.int x :: .int i :: .ref k :: st) h nc ns := by
  subst h2e
  intro p e s m args below meth c ad0 n C ad H locs ls hI
  exact va_iast C.exec C.bytes C.K hI.2.2.1.1 hI.2.2.1.2.1 (zS0 hP hI.2.2.2.1) k t (zw_get hh) (zTy C.tys ht) hi hd (fun H1 locs1 hP' hD hS => kk p e s m args below meth c ad0 n C ad H1 locs1 ls (hI.set k (.inl (t, len, .inl (upd f i.toNatClampNeg x))) trivial (zos_t (zos_t (zos_t hI.s0))) hP' hD (zS1 hP hS)))
theorem pw_lastore {k t len : Nat} {f : Nat → Int64} {i : Int32} {x : Int64} (hP : P = false) (hd : decode M.code pc = .ok (.lastore, 1)) (hh : h[k]? = some (.inl (t, len, .inr (.inl f)))) (ht : zTys[t]? = some .long) (hi : vp_in i len) {h2 : zH} (h2e : h.set k (.inl (t, len, .inr (.inl (vp_updL f i.toNatClampNeg x)))) = h2) (kk : PW G M R P Q (pc + 1) pl st h2 nc ns) : PW G M R P Q pc pl (.long x :: .int i :: .ref k :: st) h nc ns := by
  subst h2e
  intro p e s m args below meth c ad0 n C ad H locs ls hI
  exact va_last C.exec C.bytes C.K hI.2.2.1.1 hI.2.2.1.2.1 (zS0 hP hI.2.2.2.1) k t (zw_get hh) (zTy C.tys ht) hi hd (fun H1 locs1 hP' hD hS => kk p e s m args below meth c ad0 n C ad H1 locs1 ls (hI.set k (.inl (t, len, .inr (.inl (vp_updL f i.toNatClampNeg x)))) trivial (zos_t (zos_t (zos_t hI.s0))) hP' hD (zS1 hP hS)))
theorem pw_zastore {k t len : Nat} {f : Nat → Int32} {i : Int32} {x : Int32} (hP : P = false) (hd : decode M.code pc = .ok (.bastore, 1)) (hh : h[k]? = some (.inl (t, len, .inl f))) (ht : zTys[t]? = some .boolean) (hi : vp_in i len) {h2 : zH} (h2e : h.set k (.inl (t, len, .inl (upd f i.toNatClampNeg (vp_nar .boolean x)))) = h2) (kk : PW G M R P Q (pc + 1) pl st h2 nc ns) : PW G M R P Q pc pl (.int x :: .int i :: .ref k :: st) h nc ns := by
  subst h2e
  intro p e s m args below meth c ad0 n C ad H locs ls hI
  exact va_zast C.exec C.bytes C.K hI.2.2.1.1 hI.2.2.1.2.1 (zS0 hP hI.2.2.2.1) k t (zw_get hh) (zTy C.tys ht) hi hd (fun H1 locs1 hP' hD hS => kk p e s m args below meth c ad0 n C ad H1 locs1 ls (hI.set k (.inl (t, len, .inl (upd f i.toNatClampNeg (vp_nar .boolean x)))) trivial (zos_t (zos_t (zos_t hI.s0))) hP' hD (zS1 hP hS)))
theorem pw_aastore {k t len y ci : Nat} {r : vw_C} {vs : List Value} {f : Nat → Option Nat} {i : Int32} (hP : P = false) (hd : decode M.code pc = .ok (.aastore, 1)) (hh : h[k]? = some (.inl (t, len, .inr (.inr (.inr (.inr f)))))) (hy : h[y]? = some (.inr (ci, vs))) (hc : zCl[ci]? = some r) (ht : zTys[t]? = some (.object r.1)) (hi : vp_in i len) {h2 : zH} (h2e : h.set k (.inl (t, len, .inr (.inr (.inr (.inr (va_up f i.toNatClampNeg (some y))))))) = h2) (kk : PW G M R P Q (pc + 1) pl st h2 nc ns) : PW G M R P Q pc pl (.ref y :: .int i :: .ref k :: st) h nc ns := by
  subst h2e
  intro p e s m args below meth c ad0 n C ad H locs ls hI
  have ho : zoc h.length (.inl (t, len, .inr (.inr (.inr (.inr (va_up f i.toNatClampNeg (some y))))))) := by
    intro j q hq
    unfold va_up at hq
    by_cases hj : j = i.toNatClampNeg
    · rw [if_pos hj] at hq; cases hq; exact zos_h hI.s0
    · rw [if_neg hj] at hq; exact (hI.2.2.1.2.2 _ _ hh : zoc _ _) _ _ hq
  have e1 : zc ad G.tys (.inl (t, len, .inr (.inr (.inr (.inr (va_up f i.toNatClampNeg (some y))))))) = .inl ((G.tys.getD t (0, .int)).1, len, .inr (.inr (.inr (.inr (va_up (fun j => (f j).map ad) i.toNatClampNeg (some (ad y))))))) := by
    simp only [zc, zk]
    congr 7
    funext j
    unfold va_up
    by_cases hj : j = i.toNatClampNeg <;> simp [hj]
  refine va_astq C.exec C.bytes C.K hI.2.2.1.1 hI.2.2.1.2.1 (zS0 hP hI.2.2.2.1) k t y ci (zw_get hh) (zTy C.tys ht) (zw_get hy) hc hi hd (fun H1 locs1 hP' hD hS => kk p e s m args below meth c ad0 n C ad H1 locs1 ls (hI.set k _ ho (zos_t (zos_t (zos_t hI.s0))) ?_ ?_ (zS1 hP hS)))
  · rw [e1]; exact hP'
  · rw [e1]; exact hD
theorem pw_alen {k t : Nat} {a : vp_A} {ty : FieldType} (hd : decode M.code pc = .ok (.arraylength, 1)) (hh : h[k]? = some (.inl (t, a))) (ht : zTys[t]? = some ty) (kk : PW G M R P Q (pc + 1) pl (.int (Int32.ofNat a.1) :: st) h nc ns) : PW G M R P Q pc pl (.ref k :: st) h nc ns := by
  intro p e s m args below meth c ad0 n C ad H locs ls hI
  exact va_alen C.exec C.bytes C.K hI.2.2.1.1 k t (zw_get hh) (zTy C.tys ht) rfl hd (kk p e s m args below meth c ad0 n C ad H locs ls (hI.st (zos_c trivial (zos_t hI.s0))))
/-- the end of a method that returns -/
theorem zend_ret {G : zG} {P : Bool} {below : List Frame} {s : State} {args : Array Value} {mc ms : Nat} {K : Outcome → Heap → Prop} {t : State} (h : MQ below (fun _ s o t => K o t.heap ∧ va_F (zF G P) s t) args s mc ms (zF G P) t) : zEnd G P below s mc ms K t := by
  obtain ⟨o, h1, h2, ⟨h3, h4⟩, L, ⟨h5, h6, h7⟩, h8⟩ := h
  exact ⟨o, h1, h2, h3, h4, h6, L, h7, h8⟩
theorem zW_mono {p : Program} {l : Launch} {e : Env} {R : Room} {s : State} {m : MethodId} {args : Array Value} {below : List Frame} {meth : Method} {c : Code} {H : Heap} {locs : List Loc} {cells slots : Nat} {Q Q' : State → Prop} {g : JFrame} (h : ∀ t, Q t → Q' t) (w : W p l e R s m args below meth c H locs cells slots Q g) : W p l e R s m args below meth c H locs cells slots Q' g := fun T hT X => by
  obtain ⟨t, a, b⟩ := w T hT X
  exact ⟨t, a, h t b⟩
theorem zI.q {G : zG} {M : zM} {P : Bool} {s : State} {ad0 : Nat → Nat} {n : Nat} {ad : Nat → Nat} {H : Heap} {locs : List Loc} {ls : Array Slot} {pl : List (Option Value)} {st : List Value} {h : zH} {Q : zO → zH → Prop} (hI : zI G M P s ad0 n ad H locs ls pl st h) {r : zO} (hr : zor h.length r) (hq : Q r h) {t : State} (ht : t.heap = H) : zQ G ad0 n Q (zo ad r) t.heap ∧ va_F (zF G P) s t :=
  ⟨⟨r, h, ad, hq, hI.1, hI.2.1, by rw [ht]; exact hI.2.2.1, hr, rfl⟩, hI.2.2.2.1.F ht⟩
theorem pw_ireturn {x : Int32} (hd : decode M.code pc = .ok (.ireturn, 1)) (hr : M.ret = some .int) (hc : nc ≤ R.cells) (hs : ns ≤ R.slots) (hq : Q (.inl (some (.int x))) h) : PW G M R P Q pc pl [.int x] h nc ns := by
  intro p e s m args below meth c ad0 n C ad H locs ls hI
  refine W.widen hc hs (zW_mono (fun t => zend_ret (args := args)) ?_)
  exact W.iret C.exec C.bytes (by rw [C.ret]; exact hr) (fun t ht hW => hI.q (r := .inl (some (.int x))) (by rintro w ⟨⟩; trivial) hq ht) hI.2.2.2.1.2.2 hd C.locks
theorem pw_zreturn {x : Int32} (hd : decode M.code pc = .ok (.ireturn, 1)) (hr : M.ret = some .boolean) (hx : x = 0 ∨ x = 1) (hc : nc ≤ R.cells) (hs : ns ≤ R.slots) (hq : Q (.inl (some (.int x))) h) : PW G M R P Q pc pl [.int x] h nc ns := by
  intro p e s m args below meth c ad0 n C ad H locs ls hI
  refine W.widen hc hs (zW_mono (fun t => zend_ret (args := args)) ?_)
  exact W.zret C.exec C.bytes (by rw [C.ret]; exact hr) (by rcases hx with rfl | rfl <;> rfl) (fun t ht hW => hI.q (r := .inl (some (.int x))) (by rintro w ⟨⟩; trivial) hq ht) hI.2.2.2.1.2.2 hd C.locks
theorem pw_return  (hd : decode M.code pc = .ok (.return_, 1)) (hr : M.ret = none) (hc : nc ≤ R.cells) (hs : ns ≤ R.slots) (hq : Q (.inl none) h) : PW G M R P Q pc pl [] h nc ns := by
  intro p e s m args below meth c ad0 n C ad H locs ls hI
  refine W.widen hc hs (zW_mono (fun t => zend_ret (args := args)) ?_)
  exact W.vret C.exec C.bytes (by rw [C.ret]; exact hr) (fun t ht hW => hI.q (r := .inl none) (by rintro w ⟨⟩) hq ht) hI.2.2.2.1.2.2 hd C.locks
end PWheap
