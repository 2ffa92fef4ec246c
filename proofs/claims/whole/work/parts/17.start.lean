theorem arr_obj {s : State} {C : String} (h : va_AO C s) : ∃ cA : ClassId, ArrOfT s cA (.object C) ∧ va_RA s cA (.object C) := by
  obtain ⟨comp, c, k, h1, -, h3, h4, h5⟩ := Cond.arrayOver_spec h
  exact ⟨c, fun n z => ⟨fun k h => (by cases h), k, h3, comp, h4⟩, k, comp, h3, h4, h1, h5⟩
theorem arr_int {s : State} {A : Array Value} (h : (Cond.arrayClass .int).before A s = true) : ∃ cA : ClassId, ArrOfT s cA .int ∧ va_RA s cA .int := by
  obtain ⟨c, k, comp, h1, h2, h3⟩ := Cond.arrayClass_spec h
  exact ⟨c, fun n z => ⟨fun k h => (by cases h), k, h2, comp, h3⟩, h1⟩
theorem arr_boolean {s : State} {A : Array Value} (h : (Cond.arrayClass .boolean).before A s = true) : ∃ cA : ClassId, ArrOfT s cA .boolean ∧ va_RA s cA .boolean := by
  obtain ⟨c, k, comp, h1, h2, h3⟩ := Cond.arrayClass_spec h
  exact ⟨c, fun n z => ⟨fun k h => (by cases h), k, h2, comp, h3⟩, h1⟩
theorem arr_long {s : State} {A : Array Value} (h : (Cond.arrayClass .long).before A s = true) : ∃ cA : ClassId, ArrOfT s cA .long ∧ va_RA s cA .long := by
  obtain ⟨c, k, comp, h1, h2, h3⟩ := Cond.arrayClass_spec h
  exact ⟨c, fun n z => ⟨fun k h => (by cases h), k, h2, comp, h3⟩, h1⟩
theorem zSV_of {G : zG} {s : State} {A : Array Value} {nm ds : String} (hl : (Cond.laysStatic "java/lang/Throwable" nm ds).before A s = true) (hr : (Cond.isRef (.static "java/lang/Throwable" nm ds)).before A s = true) (hA : ∀ a : Nat, a < s.heap.size → ¬ G.A a) : zSV G nm ds s := by
  obtain ⟨c, k, i, f, a, cell, hc, hi, hst, ha, hcell, hs, hcls, hlt, hty⟩ := Cond.laysStatic_spec hl
  cases hv : (Term.static "java/lang/Throwable" nm ds).eval A s none [] s with
  | none => simp [Cond.before, Cond.holds, Cond.value, hv] at hr
  | some w =>
    obtain ⟨hst', a', cell', ha', hcell', -, hslot⟩ := Term.static_spec hi hv
    cases ha.symm.trans ha'
    cases hcell.symm.trans hcell'
    refine ⟨c, i, a, k, f, cell, w, hc, hi, hst, ha, hcell, hs, hcls, hlt, hty, hslot, ?_, hA a (Array.getElem?_eq_some_iff.mp hcell).1⟩
    simp only [Cond.before, Cond.holds, Cond.value, hv] at hr
    cases w with
    | null => rfl
    | ref t => rfl
    | _ => simp at hr
theorem zSt_in : ∀ q ∈ zSt, Cond.stringRef "WedgePlanes" q.1 q.2 ∈ lw_tbl := by decide +kernel
theorem zNw_on {w : Cond} (h : zisN w = true) : w.onTables = true := by
  cases w <;> first | rfl | (simp [zisN] at h)
def R_law : String := "WedgePlanesLaw"
def lw_P (b : Addr) (xs : List Int32) (args : Array Value) (s : State) : Prop := args = #[.ref b] ∧ s.IntsAt b xs ∧ xs.length ≤ 2563 ∧ (Jvm.Cond.and given_1 narrow_1).before args s = true
def lw_Q (_ : Array Value) (s : State) (o : Outcome) (t : State) : Prop := o = .returned (some (.int 1)) ∧ Framed s o t [] 601024 7293000
def lw_Z (below : List Frame) (a : Array Value) (s : State) : State → Prop := fun t => ∃ o, t.status = .running ∧ Ended t below o ∧ lw_Q a s o t
/-- what holds at the law's entry: the machine, the code, the tables' words (any of lw_tbl by 'hts w (by decide +kernel)'), the script of L ints xs at the cell b, what the Statement gives of the start (any of its parts by flat_of_before) -/
def lw_At (p : Program) (s : State) (m : MethodId) (meth : Method) (c : Code) (b L : Nat) (xs : Nat → Int32) : Prop :=
  p.tables.exec = Jvm.exec ∧ c.code = code ∧ meth.sig.returnType = ret ∧ c.maxLocals = 7 ∧ s.vm.findClass R_law = some m.cls ∧ (∀ w ∈ lw_tbl, w.before #[Value.ref b] s = true) ∧ va_X b L xs s s.heap ∧ b < s.heap.size ∧ meth.locks = false ∧ (Jvm.Cond.and given_1 narrow_1).before #[Value.ref b] s = true
set_option maxHeartbeats 2000000 in
theorem whole_start {p : Program} {e : Env} {s : State} {m : MethodId} {below : List Frame} {meth : Method} {c : Code} (l : Launch) (hfl : l.flags = flags0) {b L : Nat} {xs : Nat → Int32} (hL : L ≤ 2563) (C0 : lw_At p s m meth c b L xs) (hnm : meth.name = "law") (htab : c.exceptionTable.toList.map (fun h => (h.startPc, h.endPc, h.handlerPc, h.catchType)) = []) : W p l e room_1 s m #[Value.ref b] below meth c s.heap [] 0 0 (lw_Z below #[Value.ref b] s) (entryFrame m ([Value.ref b] : List Value).toArray 7) := by
  obtain ⟨hx, hb, hr, hml, hown, hts, hX, hbl, hlocks, hgv⟩ := id C0
  have htz : ∀ w ∈ zT, w.before #[Value.ref b] s = true := fun w hw => hts w (List.mem_filter.mp hw).1
  have hfl2 := flat_of_before _ hgv
  obtain ⟨c0, iS0, hKn0⟩ := u_known (C := "WedgePlanes$Arrow") (T := T_Arrow) (N := 3) (n := 3) htz i_Arrow (htz (.instantiable "WedgePlanes$Arrow" 3) (zmem 32 (by decide +kernel) rfl))
  obtain ⟨c1, iS1, hKn1⟩ := u_known (C := "WedgePlanes$Hold") (T := T_Hold) (N := 4) (n := 4) htz i_Hold (htz (.instantiable "WedgePlanes$Hold" 4) (zmem 25 (by decide +kernel) rfl))
  obtain ⟨c2, iS2, hKn2⟩ := u_known (C := "WedgePlanes$Plane") (T := T_Plane) (N := 2) (n := 2) htz i_Plane (htz (.instantiable "WedgePlanes$Plane" 2) (zmem 125 (by decide +kernel) rfl))
  obtain ⟨c3, iS3, hKn3⟩ := u_known (C := "WedgePlanes$Points") (T := T_Points) (N := 7) (n := 7) htz i_Points (htz (.instantiable "WedgePlanes$Points" 7) (zmem 86 (by decide +kernel) rfl))
  obtain ⟨c4, iS4, hKn4⟩ := u_known (C := "WedgePlanes$Rock") (T := T_Rock) (N := 17) (n := 17) htz i_Rock (htz (.instantiable "WedgePlanes$Rock" 17) (zmem 69 (by decide +kernel) rfl))
  obtain ⟨c5, iS5, hKn5⟩ := u_known (C := "WedgePlanes") (T := T_WP) (N := 10) (n := 10) htz i_WP (htz (.instantiable "WedgePlanes" 10) (zmem 17 (by decide +kernel) rfl))
  obtain ⟨c6, iS6, hKn6⟩ := u_known (C := "WedgePlanesModel") (T := T_Md) (N := 25) (n := 25) htz i_Md (htz (.instantiable "WedgePlanesModel" 25) (zmem 665 (by decide +kernel) rfl))
  obtain ⟨c7, iS7, hKn7⟩ := u_known (C := "java/lang/IllegalArgumentException") (T := T_0) (N := 0) (n := 6) htz (fun w hw => by simp [u_ws] at hw) (htz (.instantiable "java/lang/IllegalArgumentException" 6) (zmem 418 (by decide +kernel) rfl))
  obtain ⟨c8, iS8, hKn8⟩ := u_known (C := "java/lang/IllegalStateException") (T := T_0) (N := 0) (n := 6) htz (fun w hw => by simp [u_ws] at hw) (htz (.instantiable "java/lang/IllegalStateException" 6) (zmem 486 (by decide +kernel) rfl))
  obtain ⟨c9, iS9, hKn9⟩ := u_known (C := "java/lang/IndexOutOfBoundsException") (T := T_0) (N := 0) (n := 6) htz (fun w hw => by simp [u_ws] at hw) (htz (.instantiable "java/lang/IndexOutOfBoundsException" 6) (zmem 514 (by decide +kernel) rfl))
  obtain ⟨a0, ha0⟩ := arr_int (hts (.arrayClass .int) (List.mem_filter.mp ar_newi).1)
  obtain ⟨a1, ha1⟩ := arr_boolean (hts (.arrayClass .boolean) (List.mem_filter.mp ar_newz).1)
  obtain ⟨a2, ha2⟩ := arr_long (hts (.arrayClass .long) (List.mem_filter.mp ar_newl).1)
  have hAO1 : va_AO "WedgePlanes$Arrow" s := va_AO.of (hts (.arrayOver (.object "WedgePlanes$Arrow")) (List.mem_append_right _ (List.mem_of_getElem? (i := 31) (by decide +kernel))))
  have hAO2 : va_AO "WedgePlanes$Plane" s := va_AO.of (hts (.arrayOver (.object "WedgePlanes$Plane")) (List.mem_append_right _ (List.mem_of_getElem? (i := 84) (by decide +kernel))))
  obtain ⟨a3, ha3⟩ := arr_obj hAO1
  obtain ⟨a4, ha4⟩ := arr_obj hAO2
  obtain ⟨G, hG⟩ : ∃ G : zG, G = (l, (fun k => [c0, c1, c2, c3, c4, c5, c6, c7, c8, c9].getD k 0, fun k => [iS0, iS1, iS2, iS3, iS4, iS5, iS6, iS7, iS8, iS9].getD k (fun _ => 0)), [(a0, .int), (a1, .boolean), (a2, .long), (a3, .object "WedgePlanes$Arrow"), (a4, .object "WedgePlanes$Plane")], s.heap.size, b, L, xs) := ⟨_, rfl⟩
  have hK : va_K G.D zCl G.tys s := by
    subst hG
    refine ⟨fun k q hq => ?_, fun k q hq => ?_⟩
    · match k, hq with
      | 0, hq => have h := Option.some.inj hq; subst h; exact hKn0
      | 1, hq => have h := Option.some.inj hq; subst h; exact hKn1
      | 2, hq => have h := Option.some.inj hq; subst h; exact hKn2
      | 3, hq => have h := Option.some.inj hq; subst h; exact hKn3
      | 4, hq => have h := Option.some.inj hq; subst h; exact hKn4
      | 5, hq => have h := Option.some.inj hq; subst h; exact hKn5
      | 6, hq => have h := Option.some.inj hq; subst h; exact hKn6
      | 7, hq => have h := Option.some.inj hq; subst h; exact hKn7
      | 8, hq => have h := Option.some.inj hq; subst h; exact hKn8
      | 9, hq => have h := Option.some.inj hq; subst h; exact hKn9
      | k + 10, hq => simp [zCl] at hq
    · match k, hq with
      | 0, hq => have h := Option.some.inj hq; subst h; exact ha0
      | 1, hq => have h := Option.some.inj hq; subst h; exact ha1
      | 2, hq => have h := Option.some.inj hq; subst h; exact ha2
      | 3, hq => have h := Option.some.inj hq; subst h; exact ha3
      | 4, hq => have h := Option.some.inj hq; subst h; exact ha4
      | k + 5, hq => simp [zG.tys] at hq
  have hn0 : G.n0 = s.heap.size := by subst hG; rfl
  have hA : ∀ a : Nat, a < s.heap.size → ¬ G.A a := fun a h => by
    show ¬ G.n0 ≤ a
    rw [hn0]; omega
  obtain ⟨cur, hcur⟩ : ∃ cur, s.vm.findClass "WedgePlanes" = some cur := ⟨_, hKn5.2.1⟩
  have hZ : zZ G s := by
    refine ⟨by subst hG; rfl, by subst hG; exact hfl, zSV_of (hts _ (List.mem_append_right _ (List.mem_of_getElem? (i := 444) (by decide +kernel)))) (hfl2 _ (by decide +kernel)) hA, zSV_of (hts _ (List.mem_append_right _ (List.mem_of_getElem? (i := 446) (by decide +kernel)))) (hfl2 _ (by decide +kernel)) hA, fun w hw => va_Nw.of (zNw_on (List.mem_filter.mp hw).2) (hts w (List.mem_filter.mp hw).1), hAO1, hAO2, fun q hq => ?_, va_Nc.of (hfl2 _ (by decide +kernel)), ?_, ?_⟩
    · have h1 := hts _ (zSt_in q hq)
      obtain ⟨k, cf, i, a, -, -, -, -, -, h2⟩ := Cond.stringRef_spec hcur h1
      exact ⟨a, vk_R.of h1 h2⟩
    · subst hG; exact hX
    · subst hG; exact hbl
  have C : zX G M_Law_law p e s m (([Value.retAddr G.b] : List Value).map (zv id)).toArray meth c := by
    refine ⟨hx, hb, hr, hml, hown, ?_, hlocks, hK, Nat.le_of_eq hn0, hnm, htab, hZ⟩
    subst hG; exact htz
  have hLG : G.L ≤ 2563 := by subst hG; exact hL
  have hlG : G.l = l := by subst hG; rfl
  have hbG : G.b = b := by subst hG; rfl
  have hw := c_law hLG p e s m _ below meth c id 0 C id s.heap [] _ ⟨fun _ h => absurd h (Nat.not_lt_zero _), Nat.le_refl _, ⟨fun k q hq => by simp [zw] at hq, ⟨fun i j p q hi => by simp [zw] at hi, fun k q hq => by simp [zw] at hq⟩, fun k c hk => by simp at hk⟩, va_S.rf, fun i v hi => (by have hv := List.mem_singleton.mp (List.mem_of_getElem? (zentry_get hi)); subst hv; exact ⟨trivial, rfl⟩), zos_nil, zentry_has (ad := id) (A := [.retAddr G.b]) (n := 7) (fun v hv => by rw [List.mem_singleton.mp hv]; rfl) (show 1 ≤ 7 by decide)⟩
  rw [hlG, hbG] at hw
  rw [lg_entry_eq]
  refine zW_mono (fun t ht => ?_) hw
  obtain ⟨o, h1, h2, ⟨r, h', ad', hq, -, -, -, -, rfl⟩, h4, h5, L9, h6, h7⟩ := ht
  have hq' : r = .inl (some (.int 1)) := hq
  subst hq'
  refine ⟨_, h1, h2, rfl, ⟨_, rfl⟩, h5, State.sameButNew.drop_fresh (L := []) (J := L9) h6 (fun x hx => ?_)⟩
  have := (h7 x hx).2
  show s.heap.size ≤ x.base
  rw [← hn0]; exact this
set_option maxHeartbeats 4000000 in
theorem lw_walk (l : Launch) (hfl : l.flags = flags0) (b : Addr) (xs : List Int32) : MetFree l x (headSpec (Jvm.Cond.code x code maxLocals ret :: tables_1) room_1) (lw_P b xs) (fun _ _ _ _ _ => True) lw_Q := by
  refine MetFree.of_bodyS (code := code) (maxLocals := maxLocals) (ret := ret) (by decide) ?_ ?_
  · intro args s m h hn
    obtain ⟨meth, c, h1, h2, h3, h4, h5, h6, -, -⟩ := Cond.code_spec hn (atoms_spec (ws := Jvm.Cond.code x code maxLocals ret :: tables_1) h _ List.mem_cons_self)
    exact ⟨meth, c, h1, h2, h3, h4, h5, h6⟩
  · intro p e s m args below meth c s₁ B hml0 hP _
    obtain ⟨rfl, hx, hbd, hgv⟩ := hP
    obtain ⟨scr, harrAt, hlist, hof, hsmall⟩ := hx
    obtain ⟨hcb, hkn, -, -⟩ := State.arrayAt?_spec harrAt
    have hown : s.vm.findClass R_law = some m.cls := findClass_of_methodNamed B.named
    have hts0 : ∀ c ∈ (Jvm.Cond.code x code maxLocals ret :: tables_1), c.before #[Value.ref b] s = true := atoms_spec (ws := Jvm.Cond.code x code maxLocals ret :: tables_1) B.pre
    have hts : ∀ w ∈ lw_tbl, w.before #[Value.ref b] s = true := k2_hts_sels lw_privs (fun w hw => hts0 w (List.mem_cons_of_mem _ hw)) lw_privs_ok
    have hml : c.maxLocals = 7 := B.maxLocals_eq (hts0 _ List.mem_cons_self)
    have X₀ : Stand p l e room_1 s m #[Value.ref b] below meth c s₁ [] 0 0 := Stand.of_body B
    have hh0 : s₁.heap = s.heap := by rw [B.state]; rfl
    have hsz : scr.slots.size = xs.length := by rw [← Array.length_toList, hlist, List.length_map]
    have hval : ∀ j : Nat, j < xs.length → scr.slots[j]? = some (.int (xs.getD j 0)) := fun j hj => by
      rw [← Array.getElem?_toList, hlist]
      simp [hj]
    have hbl : b < s.heap.size := (Array.getElem?_eq_some_iff.mp hcb).1
    have hX : va_X b xs.length (fun j => xs.getD j 0) s s.heap := ⟨scr, hcb, hof, hkn, hsz, hval⟩
    have K : W p l e room_1 s m #[Value.ref b] below meth c s₁.heap [] 0 0 (lw_Z below #[Value.ref b] s) (entryFrame m ([Value.ref b] : List Value).toArray 7) := by
      rw [hh0]
      have htab : c.exceptionTable.toList.map (fun h => (h.startPc, h.endPc, h.handlerPc, h.catchType)) = [] := by
        obtain ⟨meth', c', q1, q2, -, -, -, -, q7, -⟩ := Cond.code_spec B.named (hts0 _ List.mem_cons_self)
        cases B.method.symm.trans q1
        have hc : meth.code = some c := X₀.code
        cases hc.symm.trans q2
        rw [Array.isEmpty_iff.mp q7]; rfl
      exact whole_start l hfl hbd ⟨B.exec, B.bytes, B.returns, hml, hown, hts, hX, hbl, B.notSynchronized, hgv⟩ (name_of_methodNamed B.named B.method).1 htab
    obtain ⟨t, a1, o, b1, b2, b3⟩ := K s₁ rfl X₀
    exact ⟨t, o, a1, b1, b2, b3⟩
theorem lw_pre_spec {args : Array Value} {s : State} (h : (Jvm.Cond.and given_1 narrow_1).before args s = true) (hr : rest_1_c.before args s = true) : ∃ (b : Addr) (xs : List Int32), lw_P b xs args s := by
  have hs := flat_of_before _ h
  have hq := flat_of_before _ hr
  have hc : (Cond.count 1).before args s = true := hs _ (by decide +kernel)
  have harr : (Cond.arrayOf (.arg 0) .int).before args s = true := hs _ (by decide +kernel)
  have hle : (Cond.le (.length (.arg 0)) (.int 2563)).before args s = true := hs _ (by decide +kernel)
  have hlen : (Cond.isInt (.length (.arg 0))).before args s = true := hq _ (by decide +kernel)
  have hall : (Cond.all (.arg 0) (.isInt (.elem (.arg 0) (.index 0)))).before args s = true := hq _ (by decide +kernel)
  obtain ⟨b, xs, hb, hx⟩ := State.ints_of_pre rfl harr hlen hall
  have hsm : xs.length < 2 ^ 31 := hx.choose_spec.2.2.2
  have hev : (Term.length (.arg 0)).eval args s none [] s = some (.int xs.length.toInt32) := hx.length_eval hb
  have hv := Cond.le_ints hev (show (Term.int 2563).eval args s none [] s = some (.int 2563) from rfl)
  have hd : xs.length.toInt32 ≤ 2563 := by
    simpa [Cond.before, Cond.holds, hv] using hle
  have hN : xs.length ≤ 2563 := (Int32.ofNat_le_ofNat hsm (by decide)).mp (show Int32.ofNat xs.length ≤ Int32.ofNat 2563 from hd)
  exact ⟨b, xs, Cond.one_arg hc (show args[0]? = some (.ref b) from hb), hx, hN, h⟩
theorem lw_comes (l : Launch) (hfl : l.flags = flags0) : Comes l x (Jvm.Cond.code x code maxLocals ret :: tables_1) room_1 (fun tb e args s => Calls_1 tb e args s ∧ rest_1 tb e args s ∧ Pre_1 tb e args s)
    (fun _ _ args s o t => lw_Q args s o t) := by
  intro p e ha hc hk s m args below hf hfit hheap happ hpre
  obtain ⟨b, xs, hP⟩ := lw_pre_spec hpre.2.2 hpre.2.1
  obtain ⟨k, o, h1, h2, h3, hQ⟩ := lw_walk l hfl b xs p e ha hc hk s m args below hf ((Spec.applies_iff_loose hf).mp happ).1 hP trivial
  exact ⟨k, o, h1, h2, h3, hQ⟩
theorem lw_frame {s t : State} {o : Outcome} {args : Array Value} (h : Framed s o t [] 601024 7293000) :
    Framed s o t (fieldLocs frame_1_writes args s ++ arrayLocs frame_1_arrays args s ++ staticLocs frame_1_statics s) 601024 7293000 := h
theorem lw_limb (L : Cond) (hL : ∀ (args : Array Value) (s t : State), L.after args s (.returned (some (.int 1))) t = true) :
    ArmFor flags0 classFile x code maxLocals ret World_1 tables_1 room_1 Calls_1 rest_1 Pre_1
      (fun tb e a s o t => postC L tb e a s o t ∧ Framed s o t (fieldLocs frame_1_writes a s ++ arrayLocs frame_1_arrays a s ++ staticLocs frame_1_statics s) 601024 7293000) := by
  intro l hfl _ _ p e ha hc hk s m args below hf hfit hheap happ hpre
  obtain ⟨k, o, h1, h2, h3, rfl, hF⟩ := lw_comes l hfl p e ha hc hk s m args below hf hfit hheap happ hpre
  exact ⟨k, _, h1, h2, h3, hL args s _, lw_frame hF⟩
theorem i_vc : Claimed_1_1 ∧ Claimed_1_2 := ⟨lw_limb limb_1_1 (fun args s t => by simp [limb_1_1, Cond.after, Cond.holds, Cond.value]), lw_limb limb_1_2 (fun args s t => Cond.after_iff.mpr (by
  first | (rw [show limb_1_2 = Cond.eq .result (.int 1) from rfl, Cond.eq_ints (x := 1) (y := 1) rfl rfl]; simp; done) | (simp [limb_1_2, Cond.value, Term.eval]; done)))⟩
