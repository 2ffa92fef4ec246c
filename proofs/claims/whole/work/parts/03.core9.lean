/-- the search for a handler: one entry of the table that covers the place, its class cold or warm -/
theorem zgo_link {Q : Handler → Pre} {E : CtlPost} {e : Env} {d : Bool} {acts : List Action} {s : State} {f : JFrame} {a : Addr} {x : ExceptionTableEntry} {t : List ExceptionTableEntry} {c : ClassId} {cell : Cell} (hx : covers x f.pc = true) (h0 : x.catchType ≠ 0)
    (hl : s.vm.ClassLinks e.platform f.method.cls x.catchType c) (hcell : s.heap[a]? = some cell) (hobj : ∀ k, cell.vm ≠ .statics k) (hk : ∃ k, s.vm.classes[cell.cls]? = some k) (hc : ∃ k, s.vm.classes[c]? = some k) :
    wp (findHandler.go f a (x :: t)) Q E e d acts s ↔ if s.vm.assignable cell.cls c = true then Q (.found x.handlerPc) d acts (s.setVm (s.vm.noted f.method.cls x.catchType (.cls c))) else wp (findHandler.go f a t) Q E e d acts (s.setVm (s.vm.noted f.method.cls x.catchType (.cls c))) := by
  simp only [covers] at hx
  obtain ⟨ha, ht⟩ := (resolveClass_links e.toSetting hl).op (op := VmOp.resolveClass f.method.cls x.catchType) rfl
  have hal : s.vm.Alike (s.vm.noted f.method.cls x.catchType (.cls c)) := (Vm.Alike.refl s.vm).noted _ _ _
  obtain ⟨k1, hk1⟩ := hk
  obtain ⟨k2, hk2⟩ := hc
  obtain ⟨k1', hk1', -⟩ := hal.2.2 _ _ hk1
  obtain ⟨k2', hk2', -⟩ := hal.2.2 _ _ hk2
  have hfit' : (s.vm.noted f.method.cls x.catchType (.cls c)).assignable cell.cls c = s.vm.assignable cell.cls c := hal.assignable _ _
  cases hfit : s.vm.assignable cell.cls c <;> rw [hfit] at hfit' <;> simp [findHandler.go, hx, h0, ha, ht, hcell, hobj, hk1', hk2', hfit', VmOp.dirties, VmOp.acts]
def zFinds (e : Env) (s : State) (f : JFrame) (a : Addr) (pc : Nat) (vm' : Vm) : Prop :=
  ∀ (Q : Handler → Pre) (E : CtlPost) (d : Bool) (acts : List Action), wp (findHandler f a) Q E e d acts s ↔ Q (.found pc) d acts (s.setVm vm')
theorem zcaught {tb : Tables} {e : Env} {s target : State} {g : JFrame} {c : Code} {below : List Frame} {a : Addr} (h : At s g.method c below) {pc : Nat} {vm' : Vm}
    (hfind : zFinds e ((s.setTop g).pushFrame (.throwing a)) g a pc vm') (hrest : Steps tb e below ((s.setVm vm').setTop { g with pc := pc, stack := [.ref a] }) target) :
    Steps tb e below ((s.setTop g).pushFrame (.throwing a)) target := by
  have hstep : ∀ (u : State) (r : List Frame), zFinds e u g a pc vm' → (stepThrowing e u a (.java g :: r)).Is ((u.setVm vm').setFrames (.java { g with pc := pc, stack := [.ref a] } :: r)) [] := by
    intro u r hu
    simp only [stepThrowing, searchFrame, vmDo]
    generalize hr : Sem.go _ e false [] u = res
    obtain ⟨as, rfl, ha⟩ := Sem.eq_ok_of hr (a := Handler.found pc) (s' := u.setVm vm') (acts' := []) (by simp [hu _ _ _ _])
    exact ⟨rfl, ha⟩
  have hfs : ∀ (u : State) (F K : List Frame), ((u.setFrames F).setVm vm').setFrames K = (u.setVm vm').setFrames K := by
    intro u F K
    rw [show (u.setFrames F).setVm vm' = (u.setVm vm').setFrames F from rfl, State.setFrames_setFrames]
  obtain ⟨hgo, hw⟩ := h.throwing a
  refine Steps.head hgo hw ?_
  rw [stepThread_throwing (frames_entered h.top _), (hstep ((s.setTop g).pushFrame (.throwing a)) _ hfind).1]
  obtain ⟨g₀, hg⟩ := Option.isSome_iff_exists.mp h.top
  obtain ⟨r, hr⟩ := State.topJava?_eq_some.mp hg
  have hr' : (s.setVm vm').frames = .java g₀ :: r := hr
  rw [State.setTop_of_frames _ hr'] at hrest
  rw [hr, List.tail_cons, State.pushFrame, hfs, State.setTop_of_frames _ hr, hfs]
  exact hrest
section zCatch
variable {p : Program} {l : Launch} {e : Env} {R : Room} {s : State} {m : MethodId} {args : Array Value} {below : List Frame} {meth : Method} {c : Code} {T : State} {locs : List Loc} {cells slots : Nat}
theorem zlinkAt (X : Stand p l e R s m args below meth c T locs cells slots) {own name : String} {i : Nat} (hown : s.vm.findClass own = some m.cls) (hlink : (Cond.classLink own i name).before args s = true) {cT : ClassId} (hcT : s.vm.findClass name = some cT) {vm : Vm} (hW : s.WarmedH vm) :
    vm.ClassLinks e.platform m.cls i cT ∧ s.WarmedH (vm.noted m.cls i (.cls cT)) ∧ ∃ k, vm.classes[cT]? = some k := by
  have hpl : e.platform.magicAccessors = ({} : Platform).magicAccessors := by rw [X.admits.platform]
  obtain ⟨c', hc', hcl⟩ := Cond.classLink_spec hown hlink e.platform hpl
  cases hcT.symm.trans hc'
  obtain ⟨dk, _, _, kt, hd, _, _, _, _, hkt, _, hopen⟩ := hcl.here
  obtain ⟨kt', hkt', -⟩ := hW.alike.2.2 _ _ hkt
  exact ⟨hW.classLinks hcl, hW.noted hd hopen (State.rightAt_cls hcl), kt', hkt'⟩
theorem zcatch1 (X : Stand p l e R s m args below meth c T locs cells slots) (a : Addr) {g : JFrame} (hg : g.method = m) {own name : String} (hown : s.vm.findClass own = some m.cls) {x : ExceptionTableEntry} {rest : List ExceptionTableEntry} (hsplit : c.exceptionTable.toList = x :: rest) (hx : covers x g.pc = true) (h0 : x.catchType ≠ 0)
    (hlink : (Cond.classLink own x.catchType name).before args s = true) {cT : ClassId} {cell : Cell} (hcT : s.vm.findClass name = some cT) (hcell : T.heap[a]? = some cell) (hobj : cell.vm.isStatics = false) (hk : ∃ k, s.vm.classes[cell.cls]? = some k) (hfit : s.vm.assignable cell.cls cT = true) :
    ∃ vm', Stand p l e R s m args below meth c (T.setVm vm') locs cells slots ∧ ∀ target, Steps p.tables e below ((T.setVm vm').setTop { g with pc := x.handlerPc, stack := [.ref a] }) target → Steps p.tables e below ((T.setTop g).pushFrame (.throwing a)) target := by
  obtain ⟨h1, h2, h3⟩ := zlinkAt X hown hlink hcT X.warmed
  obtain ⟨k0, hk0⟩ := hk
  obtain ⟨k1, hk1, -⟩ := X.warmed.alike.2.2 _ _ hk0
  refine ⟨_, X.noted h2, fun target hrest => ?_⟩
  subst hg
  refine zcaught X.here ?_ hrest
  intro Q E d acts
  rw [W.findHandler_eq (s := (T.setTop g).pushFrame (.throwing a)) (meth := meth) (code := c) X.method' X.code, hsplit, zgo_link (s := (T.setTop g).pushFrame (.throwing a)) hx h0 (c := cT) (cell := cell) h1 hcell (VmData.ne_statics_of hobj) ⟨k1, hk1⟩ h3, if_pos (show ((T.setTop g).pushFrame (.throwing a)).vm.assignable cell.cls cT = true by show T.vm.assignable cell.cls cT = true; rw [X.warmed.alike.assignable]; exact hfit)]
  rfl
theorem zcatch2 (X : Stand p l e R s m args below meth c T locs cells slots) (a : Addr) {g : JFrame} (hg : g.method = m) {own name name1 : String} (hown : s.vm.findClass own = some m.cls) {x y : ExceptionTableEntry} {rest : List ExceptionTableEntry} (hsplit : c.exceptionTable.toList = y :: x :: rest) (hy : covers y g.pc = true) (hy0 : y.catchType ≠ 0) (hx : covers x g.pc = true) (h0 : x.catchType ≠ 0)
    (hlink1 : (Cond.classLink own y.catchType name1).before args s = true) {cT1 : ClassId} (hcT1 : s.vm.findClass name1 = some cT1) (hlink : (Cond.classLink own x.catchType name).before args s = true) {cT : ClassId} {cell : Cell} (hcT : s.vm.findClass name = some cT) (hcell : T.heap[a]? = some cell) (hobj : cell.vm.isStatics = false) (hk : ∃ k, s.vm.classes[cell.cls]? = some k) (hno : s.vm.assignable cell.cls cT1 = false) (hfit : s.vm.assignable cell.cls cT = true) :
    ∃ vm', Stand p l e R s m args below meth c (T.setVm vm') locs cells slots ∧ ∀ target, Steps p.tables e below ((T.setVm vm').setTop { g with pc := x.handlerPc, stack := [.ref a] }) target → Steps p.tables e below ((T.setTop g).pushFrame (.throwing a)) target := by
  obtain ⟨h1, h2, h3⟩ := zlinkAt X hown hlink1 hcT1 X.warmed
  obtain ⟨h4, h5, h6⟩ := zlinkAt X hown hlink hcT h2
  obtain ⟨k0, hk0⟩ := hk
  obtain ⟨k1, hk1, -⟩ := X.warmed.alike.2.2 _ _ hk0
  obtain ⟨k2, hk2, -⟩ := h2.alike.2.2 _ _ hk0
  refine ⟨_, X.noted h5, fun target hrest => ?_⟩
  subst hg
  refine zcaught X.here ?_ hrest
  intro Q E d acts
  rw [W.findHandler_eq (s := (T.setTop g).pushFrame (.throwing a)) (meth := meth) (code := c) X.method' X.code, hsplit, zgo_link (s := (T.setTop g).pushFrame (.throwing a)) hy hy0 (c := cT1) (cell := cell) h1 hcell (VmData.ne_statics_of hobj) ⟨k1, hk1⟩ h3, if_neg (show ¬ ((T.setTop g).pushFrame (.throwing a)).vm.assignable cell.cls cT1 = true by show ¬ T.vm.assignable cell.cls cT1 = true; rw [X.warmed.alike.assignable, hno]; decide),
    zgo_link (s := ((T.setTop g).pushFrame (.throwing a)).setVm (((T.setTop g).pushFrame (.throwing a)).vm.noted g.method.cls y.catchType (.cls cT1))) hx h0 (c := cT) (cell := cell) h4 hcell (VmData.ne_statics_of hobj) ⟨k2, hk2⟩ h6, if_pos (show (((T.setTop g).pushFrame (.throwing a)).setVm (((T.setTop g).pushFrame (.throwing a)).vm.noted g.method.cls y.catchType (.cls cT1))).vm.assignable cell.cls cT = true by show (T.vm.noted g.method.cls y.catchType (.cls cT1)).assignable cell.cls cT = true; rw [h2.alike.assignable]; exact hfit)]
  rfl
end zCatch
/-- a call that throws, in a method with handlers: it is caught by the first -/
theorem pw_catch1 {G : zG} {M M' : zM} {R R' : Room} {P P' : Bool} {Q Q' : zO → zH → Prop} {pc : Nat} {pl : List (Option Value)} {st : List Value} {h : zH} {nc ns : Nat} (A : List Value) {idx k ci cx lo hi hpc ct : Nat} {fs : List Value} {stk : List Value} {hs : List (Nat × Nat × Nat × Nat)} {cls : String} (hPP : P = true → P' = true) (hd : decode M.code pc = .ok (.invokevirtual idx, 3)) (hl : zLV M.nm.cls idx M' A.length) (hh : h[k]? = some (.inr (ci, fs))) (hc : (zCl[ci]?).map Prod.fst = some M'.nm.cls) (hst : stk = A.reverse ++ .ref k :: st) (hA : ∀ v ∈ A, v.category = 1) (hmax : A.length + 1 ≤ M'.maxL) (hf : zfit M' R' R nc ns) (hw : (st.map fun v => v.category).sum ≤ 8)
    (hhs : M.hs = (lo, hi, hpc, ct) :: hs) (hlo : lo ≤ pc ∧ pc < hi) (hct : ct ≠ 0) (hx : zCl[cx]? = some (cls, T_0, 0)) (hlk : Cond.classLink M.nm.cls ct cls ∈ zT) (hcast : Cond.castable cls cls ∈ zNw)
    (hb : PW G M' R' P' Q' 0 (zentry M'.maxL (.ref k :: A)) [] h 0 0) (hthr : ∀ r h', Q' r h' → ∃ y, r = .inr (cx, y) ∧ h'[y]? = some (.inr (cx, []))) (kk : ∀ y h', Q' (.inr (cx, y)) h' → PW G M R P Q hpc pl [.ref y] h' (nc + R'.cells) (ns + R'.slots)) : PW G M R P Q pc pl stk h nc ns := by
  subst hst
  intro p e s m args below meth c ad0 n C ad H locs ls hI T hT X
  obtain ⟨q, h', ad', B, L, h1, hI', X', hgo⟩ := zthrow hPP C hI hT X hd hl hh hc hA hmax hf hw hb (fun r h' hq => by obtain ⟨y, e1, -⟩ := hthr r h' hq; exact ⟨_, e1⟩)
  obtain ⟨y, e1, hy⟩ := hthr _ _ h1
  cases e1
  obtain ⟨r, hr1, cell, g1, g2, g3, -⟩ := hI'.2.2.1.1 y _ (zw_get hy)
  have htab := C.tab
  rw [hhs] at htab
  obtain ⟨x, rest, t1, t2, t3⟩ := List.map_eq_cons_iff.mp htab
  obtain ⟨u1, u2, u3, u4⟩ : x.startPc = lo ∧ x.endPc = hi ∧ x.handlerPc = hpc ∧ x.catchType = ct := by simpa using t2
  obtain ⟨c3, c4, w1, w2, w3⟩ := Cond.castable_spec (va_Nw.use (A := args) rfl (C.Z.2.2.2.2.1 _ hcast))
  cases w1.symm.trans w2
  have hKc := (C.K.1 cx _ hx).2
  have hcc : cell.cls = c3 := g2.trans (Option.some.inj (hKc.1.symm.trans w1))
  obtain ⟨kC, hkC, -⟩ := hKc.2
  obtain ⟨vm', X2, hgo2⟩ := zcatch1 X' (ad' y) (g := F0 m pc ls (st.map (zv ad))) rfl C.own t1 (by simp only [covers, u1, u2, Bool.and_eq_true, decide_eq_true_eq]; exact hlo) (by rw [u4]; exact hct) (by rw [u4]; exact C.ts _ hlk) w1 g1 (by rw [g3]; rfl) ⟨kC, by rw [g2]; exact hkC⟩ (by rw [hcc]; exact w3)
  obtain ⟨t, a1, b1⟩ := kk y h' h1 p e s m args below meth c ad0 n C ad' B.heap (locs ++ L) ls hI' (B.setVm vm') rfl X2
  refine ⟨t, hgo _ (hgo2 _ ?_), b1⟩
  rw [u3]
  exact a1
theorem pw_catch2 {G : zG} {M M' : zM} {R R' : Room} {P P' : Bool} {Q Q' : zO → zH → Prop} {pc : Nat} {pl : List (Option Value)} {st : List Value} {h : zH} {nc ns : Nat} (A : List Value) {idx k ci cx lo hi hpc ct lo1 hi1 hpc1 ct1 : Nat} {fs : List Value} {stk : List Value} {hs : List (Nat × Nat × Nat × Nat)} (hPP : P = true → P' = true) (hd : decode M.code pc = .ok (.invokevirtual idx, 3)) (hl : zLV M.nm.cls idx M' A.length) (hh : h[k]? = some (.inr (ci, fs))) (hc : (zCl[ci]?).map Prod.fst = some M'.nm.cls) (hst : stk = A.reverse ++ .ref k :: st) (hA : ∀ v ∈ A, v.category = 1) (hmax : A.length + 1 ≤ M'.maxL) (hf : zfit M' R' R nc ns) (hw : (st.map fun v => v.category).sum ≤ 8)
    (hhs : M.hs = (lo1, hi1, hpc1, ct1) :: (lo, hi, hpc, ct) :: hs) (hlo1 : lo1 ≤ pc ∧ pc < hi1) (hct1 : ct1 ≠ 0) (hlo : lo ≤ pc ∧ pc < hi) (hct : ct ≠ 0) (hx : zCl[cx]? = some ("java/lang/IllegalStateException", T_0, 0)) (hlk1 : Cond.classLink M.nm.cls ct1 "java/lang/IllegalArgumentException" ∈ zT) (hlk : Cond.classLink M.nm.cls ct "java/lang/IllegalStateException" ∈ zT) (hcast : Cond.castable "java/lang/IllegalStateException" "java/lang/IllegalStateException" ∈ zNw)
    (hb : PW G M' R' P' Q' 0 (zentry M'.maxL (.ref k :: A)) [] h 0 0) (hthr : ∀ r h', Q' r h' → ∃ y, r = .inr (cx, y) ∧ h'[y]? = some (.inr (cx, []))) (kk : ∀ y h', Q' (.inr (cx, y)) h' → PW G M R P Q hpc pl [.ref y] h' (nc + R'.cells) (ns + R'.slots)) : PW G M R P Q pc pl stk h nc ns := by
  subst hst
  intro p e s m args below meth c ad0 n C ad H locs ls hI T hT X
  obtain ⟨q, h', ad', B, L, h1, hI', X', hgo⟩ := zthrow hPP C hI hT X hd hl hh hc hA hmax hf hw hb (fun r h' hq => by obtain ⟨y, e1, -⟩ := hthr r h' hq; exact ⟨_, e1⟩)
  obtain ⟨y, e1, hy⟩ := hthr _ _ h1
  cases e1
  obtain ⟨r, hr1, cell, g1, g2, g3, -⟩ := hI'.2.2.1.1 y _ (zw_get hy)
  have htab := C.tab
  rw [hhs] at htab
  obtain ⟨x1, rest1, t1, t2, t3⟩ := List.map_eq_cons_iff.mp htab
  obtain ⟨x, rest, t4, t5, t6⟩ := List.map_eq_cons_iff.mp t3
  rw [t4] at t1
  obtain ⟨v1, v2, v3, v4⟩ : x1.startPc = lo1 ∧ x1.endPc = hi1 ∧ x1.handlerPc = hpc1 ∧ x1.catchType = ct1 := by simpa using t2
  obtain ⟨u1, u2, u3, u4⟩ : x.startPc = lo ∧ x.endPc = hi ∧ x.handlerPc = hpc ∧ x.catchType = ct := by simpa using t5
  obtain ⟨c3, c4, w1, w2, w3⟩ := Cond.castable_spec (va_Nw.use (A := args) rfl (C.Z.2.2.2.2.1 _ hcast))
  cases w1.symm.trans w2
  obtain ⟨c5, c6, z1, z2, z3⟩ := C.Z.2.2.2.2.2.2.2.2.1
  cases w1.symm.trans z1
  have hKc := (C.K.1 cx _ hx).2
  have hcc : cell.cls = c3 := g2.trans (Option.some.inj (hKc.1.symm.trans w1))
  obtain ⟨kC, hkC, -⟩ := hKc.2
  obtain ⟨vm', X2, hgo2⟩ := zcatch2 X' (ad' y) (g := F0 m pc ls (st.map (zv ad))) rfl C.own t1 (by simp only [covers, v1, v2, Bool.and_eq_true, decide_eq_true_eq]; exact hlo1) (by rw [v4]; exact hct1) (by simp only [covers, u1, u2, Bool.and_eq_true, decide_eq_true_eq]; exact hlo) (by rw [u4]; exact hct) (by rw [v4]; exact C.ts _ hlk1) z2 (by rw [u4]; exact C.ts _ hlk) w1 g1 (by rw [g3]; rfl) ⟨kC, by rw [g2]; exact hkC⟩ (by rw [hcc]; exact z3) (by rw [hcc]; exact w3)
  obtain ⟨t, a1, b1⟩ := kk y h' h1 p e s m args below meth c ad0 n C ad' B.heap (locs ++ L) ls hI' (B.setVm vm') rfl X2
  refine ⟨t, hgo _ (hgo2 _ ?_), b1⟩
  rw [u3]
  exact a1
