def zroom (d mc ms : Nat) : Room := { frames := d, cells := mc, slots := ms, locals := 32 * d }
/-- a static of Throwable's that holds a reference or null -/
def zSV (G : zG) (nm ds : String) (U : State) : Prop := ∃ (c i a : Nat) (k : Class) (f : Field) (cell : Cell) (v : Value), U.vm.findClass "java/lang/Throwable" = some c ∧ U.fieldFound? "java/lang/Throwable" nm ds = some (c, k, i, f) ∧ f.isStatic = true ∧ k.statics = some a ∧ U.heap[a]? = some cell ∧ cell.vm.isStatics = true ∧ cell.cls = c ∧ f.slot < cell.slots.size ∧ k.staticTypes[f.slot]? = some f.type ∧ cell.slots[f.slot]? = some v ∧ v.isRef = true ∧ ¬ G.A a
/-- the script lies where it lay -/
def zScr (G : zG) (s : State) : Prop := va_X G.b G.L G.xs s s.heap ∧ G.b < G.n0
def zZ (G : zG) (s : State) : Prop := G.tys.map Prod.snd = zTys ∧ G.l.flags = flags0 ∧ zSV G "UNASSIGNED_STACK" "[Ljava/lang/StackTraceElement;" s ∧ zSV G "SUPPRESSED_SENTINEL" "Ljava/util/List;" s ∧ (∀ w ∈ zNw, va_Nw w s) ∧ va_AO "WedgePlanes$Arrow" s ∧ va_AO "WedgePlanes$Plane" s ∧ (∀ q ∈ zSt, ∃ a, vk_R "WedgePlanes" q.1 q.2 a s) ∧ va_Nc "java/lang/IllegalStateException" "java/lang/IllegalArgumentException" s ∧ zScr G s
def zR (G : zG) (ad : Nat → Nat) (h : zH) (H : Heap) : Prop := va_P G.D zCl (zw ad G.tys h) H ∧ va_D G.A (zw ad G.tys h) ∧ zoh h
def zo (ad : Nat → Nat) (r : zO) : Outcome := match r with
  | .inl v => .returned (v.map (zv ad))
  | .inr q => .threw (ad q.2)
def zor (n : Nat) (r : zO) : Prop := match r with
  | .inl v => ∀ w, v = some w → zov n w
  | .inr q => q.2 < n
def zQ (G : zG) (ad0 : Nat → Nat) (n : Nat) (Q : zO → zH → Prop) (o : Outcome) (H : Heap) : Prop := ∃ (r : zO) (h : zH) (ad : Nat → Nat), Q r h ∧ (∀ k, k < n → ad k = ad0 k) ∧ n ≤ h.length ∧ zR G ad h H ∧ zor h.length r ∧ o = zo ad r
def zF (G : zG) (P : Bool) : Nat → Prop := fun q => P = false ∧ G.A q
theorem zS0 {G : zG} {P : Bool} (hP : P = false) {H0 H : Heap} {locs : List Loc} (h : va_S (zF G P) H0 H locs) : va_S G.A H0 H locs := ⟨h.1, fun q h1 h2 => h.2.1 q h1 (fun z => h2 z.2), fun q hq => (h.2.2 q hq).2⟩
theorem zS1 {G : zG} {P : Bool} (hP : P = false) {H0 H : Heap} {locs : List Loc} (h : va_S G.A H0 H locs) : va_S (zF G P) H0 H locs := ⟨h.1, fun q h1 h2 => h.2.1 q h1 (fun z => h2 ⟨hP, z⟩), fun q hq => ⟨hP, h.2.2 q hq⟩⟩
theorem zS2 {G : zG} {P : Bool} {H0 H : Heap} {locs : List Loc} (h : va_S (zF G P) H0 H locs) : va_S G.A H0 H locs := ⟨h.1, fun q h1 h2 => h.2.1 q h1 (fun z => h2 z.2), fun q hq => (h.2.2 q hq).2⟩
def zEnd (G : zG) (P : Bool) (below : List Frame) (s : State) (mc ms : Nat) (K : Outcome → Heap → Prop) : State → Prop := fun t => ∃ o, t.status = .running ∧ Ended t below o ∧ K o t.heap ∧ va_F (zF G P) s t ∧ s.WarmedH t.vm ∧ ∃ L, s.sameButNew ({ t with vm := s.vm } : State) L mc ms ∧ ∀ q ∈ L, zF G P q.base
/-- what holds all through a method -/
def zX (G : zG) (M : zM) (p : Program) (e : Env) (s : State) (m : MethodId) (args : Array Value) (meth : Method) (c : Code) : Prop :=
  p.tables.exec = Jvm.exec ∧ c.code = M.code ∧ meth.sig.returnType = M.ret ∧ c.maxLocals = M.maxL ∧ s.vm.findClass M.nm.cls = some m.cls ∧ (∀ w ∈ zT, w.before args s = true) ∧ meth.locks = false ∧ va_K G.D zCl G.tys s ∧ G.n0 ≤ s.heap.size ∧ meth.name = M.nm.name ∧ c.exceptionTable.toList.map (fun h => (h.startPc, h.endPc, h.handlerPc, h.catchType)) = M.hs ∧ zZ G s
/-- what holds at a point of it -/
def zI (G : zG) (M : zM) (P : Bool) (s : State) (ad0 : Nat → Nat) (n : Nat) (ad : Nat → Nat) (H : Heap) (locs : List Loc) (ls : Array Slot) (pl : List (Option Value)) (st : List Value) (h : zH) : Prop :=
  (∀ k, k < n → ad k = ad0 k) ∧ n ≤ h.length ∧ zR G ad h H ∧ va_S (zF G P) s.heap H locs ∧ zol h.length pl ∧ zos h.length st ∧ zhas ad pl M.maxL ls
def PW (G : zG) (M : zM) (R : Room) (P : Bool) (Q : zO → zH → Prop) (pc : Nat) (pl : List (Option Value)) (st : List Value) (h : zH) (nc ns : Nat) : Prop :=
  ∀ (p : Program) (e : Env) (s : State) (m : MethodId) (args : Array Value) (below : List Frame) (meth : Method) (c : Code) (ad0 : Nat → Nat) (n : Nat), zX G M p e s m args meth c →
    ∀ (ad : Nat → Nat) (H : Heap) (locs : List Loc) (ls : Array Slot), zI G M P s ad0 n ad H locs ls pl st h →
      W p G.l e R s m args below meth c H locs nc ns (zEnd G P below s R.cells R.slots (zQ G ad0 n Q)) (F0 m pc ls (st.map (zv ad)))
theorem zos_nil {n : Nat} : zos n [] := fun v h => by cases h
theorem zos_c {n : Nat} {v : Value} {st : List Value} (h1 : zov n v) (h2 : zos n st) : zos n (v :: st) := by
  intro w hw
  rcases List.mem_cons.mp hw with rfl | h
  · exact h1
  · exact h2 w h
theorem zos_t {n : Nat} {v : Value} {st : List Value} (h : zos n (v :: st)) : zos n st := fun w hw => h w (List.mem_cons_of_mem _ hw)
theorem zos_h {n : Nat} {v : Value} {st : List Value} (h : zos n (v :: st)) : zov n v := h v List.mem_cons_self
theorem zI.st {G : zG} {M : zM} {P : Bool} {s : State} {ad0 : Nat → Nat} {n : Nat} {ad : Nat → Nat} {H : Heap} {locs : List Loc} {ls : Array Slot} {pl : List (Option Value)} {st st' : List Value} {h : zH} (hI : zI G M P s ad0 n ad H locs ls pl st h) (hs : zos h.length st') : zI G M P s ad0 n ad H locs ls pl st' h :=
  ⟨hI.1, hI.2.1, hI.2.2.1, hI.2.2.2.1, hI.2.2.2.2.1, hs, hI.2.2.2.2.2.2⟩
theorem zI.s0 {G : zG} {M : zM} {P : Bool} {s : State} {ad0 : Nat → Nat} {n : Nat} {ad : Nat → Nat} {H : Heap} {locs : List Loc} {ls : Array Slot} {pl : List (Option Value)} {st : List Value} {h : zH} (hI : zI G M P s ad0 n ad H locs ls pl st h) : zos h.length st := hI.2.2.2.2.2.1
theorem zcat (ad : Nat → Nat) (v : Value) : (zv ad v).category = v.category := by cases v <;> rfl
def zent (ad : Nat → Nat) (pl : List (Option Value)) : List (Nat × Value) := pl.zipIdx.filterMap (fun q => q.1.map (fun v => (q.2, zv ad v)))
theorem zent_mem {ad : Nat → Nat} {pl : List (Option Value)} {i : Nat} {w : Value} : (i, w) ∈ zent ad pl ↔ ∃ v, pl[i]? = some (some v) ∧ w = zv ad v := by
  simp only [zent, List.mem_filterMap, Option.map_eq_some_iff, Prod.mk.injEq]
  constructor
  · rintro ⟨⟨o, j⟩, hm, v, ho, rfl, rfl⟩
    have := List.mem_zipIdx_iff_getElem?.mp hm
    simp only at ho this
    subst ho
    exact ⟨v, this, rfl⟩
  · rintro ⟨v, hv, rfl⟩
    exact ⟨(some v, i), List.mem_zipIdx_iff_getElem?.mpr hv, v, rfl, rfl, rfl⟩
theorem zhas.lv {ad : Nat → Nat} {pl : List (Option Value)} {nL : Nat} {ls : Array Slot} (h : zhas ad pl nL ls) : lv_has ls nL (zent ad pl) :=
  ⟨h.1, h.2.1, fun q hq => by obtain ⟨v, h1, h2⟩ := zent_mem.mp (show (q.1, q.2) ∈ _ from hq); rw [h2]; exact h.2.2 _ _ h1⟩
theorem zhas.put {ad : Nat → Nat} {pl : List (Option Value)} {nL n : Nat} {ls' : Array Slot} {i : Nat} {v : Value} (hp : zol n pl) (h : lv_has ls' nL ((i, zv ad v) :: (zent ad pl).filter (fun q => !(q.1 == i) && !(q.1 + 1 == i && q.2.category == 2)))) : zhas ad (pl.set i (some v)) nL ls' := by
  refine ⟨h.1, h.2.1, fun j w hw => ?_⟩
  rw [List.getElem?_set] at hw
  by_cases hi : i = j
  · subst hi
    by_cases hl : i < pl.length
    · simp [hl] at hw
      subst hw
      exact h.2.2 _ List.mem_cons_self
    · simp [hl] at hw
  · simp [hi] at hw
    refine h.2.2 (j, zv ad w) (List.mem_cons_of_mem _ (List.mem_filter.mpr ⟨zent_mem.mpr ⟨w, hw, rfl⟩, ?_⟩))
    have hc : (zv ad w).category = 1 := by rw [zcat]; exact (hp j w hw).2
    simp [hc, Ne.symm hi]
theorem zol_set {n i : Nat} {pl : List (Option Value)} {v : Value} (h : zol n pl) (hv : zov n v) (hc : v.category = 1) : zol n (pl.set i (some v)) := by
  intro j w hw
  rw [List.getElem?_set] at hw
  by_cases hi : i = j
  · subst hi
    by_cases hl : i < pl.length
    · simp [hl] at hw; subst hw; exact ⟨hv, hc⟩
    · simp [hl] at hw
  · simp [hi] at hw; exact h j w hw
theorem zI.put {G : zG} {M : zM} {P : Bool} {s : State} {ad0 : Nat → Nat} {n : Nat} {ad : Nat → Nat} {H : Heap} {locs : List Loc} {ls ls' : Array Slot} {pl : List (Option Value)} {st st' : List Value} {h : zH} {i : Nat} {v : Value} (hI : zI G M P s ad0 n ad H locs ls pl st h) (hs : zos h.length st') (hv : zov h.length v) (hc : v.category = 1)
    (h' : lv_has ls' M.maxL ((i, zv ad v) :: (zent ad pl).filter (fun q => !(q.1 == i) && !(q.1 + 1 == i && q.2.category == 2)))) : zI G M P s ad0 n ad H locs ls' (pl.set i (some v)) st' h :=
  ⟨hI.1, hI.2.1, hI.2.2.1, hI.2.2.2.1, zol_set hI.2.2.2.2.1 hv hc, hs, zhas.put hI.2.2.2.2.1 h'⟩
theorem zI.l {G : zG} {M : zM} {P : Bool} {s : State} {ad0 : Nat → Nat} {n : Nat} {ad : Nat → Nat} {H : Heap} {locs : List Loc} {ls : Array Slot} {pl : List (Option Value)} {st : List Value} {h : zH} (hI : zI G M P s ad0 n ad H locs ls pl st h) {i : Nat} {v : Value} (hi : pl[i]? = some (some v)) : ls[i]? = some (.val (zv ad v)) := hI.2.2.2.2.2.2.2.2 i v hi
section PWrows
variable {G : zG} {M : zM} {R : Room} {P : Bool} {Q : zO → zH → Prop} {pc : Nat} {pl : List (Option Value)} {st : List Value} {h : zH} {nc ns : Nat}

theorem pw_iconst {k : Int} {x : Int32} (hd : decode M.code pc = .ok (.iconst k, 1)) (hx : Int32.ofInt k = x) (kk : PW G M R P Q (pc + 1) pl (.int x :: st) h nc ns) : PW G M R P Q pc pl st h nc ns := by
  intro p e s m args below meth c ad0 n C ad H locs ls hI
  exact lv_iconst C.1 C.2.1 hd hx (kk p e s m args below meth c ad0 n C ad H locs ls (hI.st (zos_c trivial hI.s0)))
theorem pw_bipush {k : Int} {x : Int32} (hd : decode M.code pc = .ok (.bipush k, 2)) (hx : (Int8.ofInt k).toInt32 = x) (kk : PW G M R P Q (pc + 2) pl (.int x :: st) h nc ns) : PW G M R P Q pc pl st h nc ns := by
  intro p e s m args below meth c ad0 n C ad H locs ls hI
  exact lv_bipush C.1 C.2.1 hd hx (kk p e s m args below meth c ad0 n C ad H locs ls (hI.st (zos_c trivial hI.s0)))
theorem pw_sipush {k : Int} {x : Int32} (hd : decode M.code pc = .ok (.sipush k, 3)) (hx : (Int16.ofInt k).toInt32 = x) (kk : PW G M R P Q (pc + 3) pl (.int x :: st) h nc ns) : PW G M R P Q pc pl st h nc ns := by
  intro p e s m args below meth c ad0 n C ad H locs ls hI
  exact lv_sipush C.1 C.2.1 hd hx (kk p e s m args below meth c ad0 n C ad H locs ls (hI.st (zos_c trivial hI.s0)))
theorem pw_lconst {k : Fin 2} {x : Int64} (hd : decode M.code pc = .ok (.lconst k, 1)) (hx : Int64.ofNat (k : Nat) = x) (kk : PW G M R P Q (pc + 1) pl (.long x :: st) h nc ns) : PW G M R P Q pc pl st h nc ns := by
  intro p e s m args below meth c ad0 n C ad H locs ls hI
  exact lv_lconst C.1 C.2.1 hd hx (kk p e s m args below meth c ad0 n C ad H locs ls (hI.st (zos_c trivial hI.s0)))
theorem pw_anull  (hd : decode M.code pc = .ok (.aconst_null, 1)) (kk : PW G M R P Q (pc + 1) pl (.null :: st) h nc ns) : PW G M R P Q pc pl st h nc ns := by
  intro p e s m args below meth c ad0 n C ad H locs ls hI
  exact lv_null C.1 C.2.1 hd (kk p e s m args below meth c ad0 n C ad H locs ls (hI.st (zos_c trivial hI.s0)))
theorem pw_iload_n {k : Fin 4} {i : Nat} {x : Int32} (hd : decode M.code pc = .ok (.iload_n k, 1)) (hk : (k : Nat) = i) (hx : pl[i]? = some (some (.int x))) (kk : PW G M R P Q (pc + 1) pl (.int x :: st) h nc ns) : PW G M R P Q pc pl st h nc ns := by
  intro p e s m args below meth c ad0 n C ad H locs ls hI
  exact lv_iload_n C.1 C.2.1 hd hk (hI.l hx) (kk p e s m args below meth c ad0 n C ad H locs ls (hI.st (zos_c trivial hI.s0)))
theorem pw_iload {i : Nat} {x : Int32} (hd : decode M.code pc = .ok (.iload i, 2)) (hx : pl[i]? = some (some (.int x))) (kk : PW G M R P Q (pc + 2) pl (.int x :: st) h nc ns) : PW G M R P Q pc pl st h nc ns := by
  intro p e s m args below meth c ad0 n C ad H locs ls hI
  exact lv_iload C.1 C.2.1 hd (hI.l hx) (kk p e s m args below meth c ad0 n C ad H locs ls (hI.st (zos_c trivial hI.s0)))
theorem pw_aload_n {k : Fin 4} {i x : Nat} (hd : decode M.code pc = .ok (.aload_n k, 1)) (hk : (k : Nat) = i) (hx : pl[i]? = some (some (.ref x))) (kk : PW G M R P Q (pc + 1) pl (.ref x :: st) h nc ns) : PW G M R P Q pc pl st h nc ns := by
  intro p e s m args below meth c ad0 n C ad H locs ls hI
  exact lv_aload_n C.1 C.2.1 hd hk (hI.l hx) (kk p e s m args below meth c ad0 n C ad H locs ls (hI.st (zos_c (hI.2.2.2.2.1 _ _ hx).1 hI.s0)))
theorem pw_aload {i x : Nat} (hd : decode M.code pc = .ok (.aload i, 2)) (hx : pl[i]? = some (some (.ref x))) (kk : PW G M R P Q (pc + 2) pl (.ref x :: st) h nc ns) : PW G M R P Q pc pl st h nc ns := by
  intro p e s m args below meth c ad0 n C ad H locs ls hI
  exact lv_aload C.1 C.2.1 hd (hI.l hx) (kk p e s m args below meth c ad0 n C ad H locs ls (hI.st (zos_c (hI.2.2.2.2.1 _ _ hx).1 hI.s0)))
theorem pw_istore_n {k : Fin 4} {i : Nat} {x : Int32} (hd : decode M.code pc = .ok (.istore_n k, 1)) (hk : (k : Nat) = i) (hi : i < M.maxL) {pl' : List (Option Value)} (hp : pl.set i (some (.int x)) = pl') (kk : PW G M R P Q (pc + 1) pl' st h nc ns) : PW G M R P Q pc pl (.int x :: st) h nc ns := by
  subst hp
  intro p e s m args below meth c ad0 n C ad H locs ls hI
  exact lv_istore_n C.1 C.2.1 hd hk hI.2.2.2.2.2.2.lv hi rfl (fun ls' h' => kk p e s m args below meth c ad0 n C ad H locs ls' (hI.put (v := .int x) (zos_t hI.s0) (zos_h hI.s0) rfl h'))
theorem pw_istore {i : Nat} {x : Int32} (hd : decode M.code pc = .ok (.istore i, 2)) (hi : i < M.maxL) {pl' : List (Option Value)} (hp : pl.set i (some (.int x)) = pl') (kk : PW G M R P Q (pc + 2) pl' st h nc ns) : PW G M R P Q pc pl (.int x :: st) h nc ns := by
  subst hp
  intro p e s m args below meth c ad0 n C ad H locs ls hI
  exact lv_istore C.1 C.2.1 hd hI.2.2.2.2.2.2.lv hi rfl (fun ls' h' => kk p e s m args below meth c ad0 n C ad H locs ls' (hI.put (v := .int x) (zos_t hI.s0) (zos_h hI.s0) rfl h'))
theorem pw_astore_n {k : Fin 4} {i x : Nat} (hd : decode M.code pc = .ok (.astore_n k, 1)) (hk : (k : Nat) = i) (hi : i < M.maxL) {pl' : List (Option Value)} (hp : pl.set i (some (.ref x)) = pl') (kk : PW G M R P Q (pc + 1) pl' st h nc ns) : PW G M R P Q pc pl (.ref x :: st) h nc ns := by
  subst hp
  intro p e s m args below meth c ad0 n C ad H locs ls hI
  exact lv_astore_n C.1 C.2.1 hd hk hI.2.2.2.2.2.2.lv hi rfl (fun ls' h' => kk p e s m args below meth c ad0 n C ad H locs ls' (hI.put (v := .ref x) (zos_t hI.s0) (zos_h hI.s0) rfl h'))
theorem pw_astore {i x : Nat} (hd : decode M.code pc = .ok (.astore i, 2)) (hi : i < M.maxL) {pl' : List (Option Value)} (hp : pl.set i (some (.ref x)) = pl') (kk : PW G M R P Q (pc + 2) pl' st h nc ns) : PW G M R P Q pc pl (.ref x :: st) h nc ns := by
  subst hp
  intro p e s m args below meth c ad0 n C ad H locs ls hI
  exact lv_astore C.1 C.2.1 hd hI.2.2.2.2.2.2.lv hi rfl (fun ls' h' => kk p e s m args below meth c ad0 n C ad H locs ls' (hI.put (v := .ref x) (zos_t hI.s0) (zos_h hI.s0) rfl h'))
theorem pw_iinc {i : Nat} {k : Int} {x y : Int32} (hd : decode M.code pc = .ok (.iinc i k, 3)) (hx : pl[i]? = some (some (.int x))) (hy : x + Int32.ofInt k = y) (hi : i < M.maxL) {pl' : List (Option Value)} (hp : pl.set i (some (.int y)) = pl') (kk : PW G M R P Q (pc + 3) pl' st h nc ns) : PW G M R P Q pc pl st h nc ns := by
  subst hp
  intro p e s m args below meth c ad0 n C ad H locs ls hI
  obtain ⟨j, hj⟩ := List.getElem?_of_mem (zent_mem.mpr ⟨_, hx, rfl⟩ : (i, zv ad (.int x)) ∈ zent ad pl)
  exact lv_iinc C.1 C.2.1 hd hI.2.2.2.2.2.2.lv hj hy hi rfl (fun ls' h' => kk p e s m args below meth c ad0 n C ad H locs ls' (hI.put (v := .int y) hI.s0 trivial rfl h'))
theorem pw_iadd {x y : Int32} (hd : decode M.code pc = .ok (.iadd, 1)) (kk : PW G M R P Q (pc + 1) pl (.int (x + y) :: st) h nc ns) : PW G M R P Q pc pl (.int y :: .int x :: st) h nc ns := by
  intro p e s m args below meth c ad0 n C ad H locs ls hI
  exact lv_iadd C.1 C.2.1 hd (kk p e s m args below meth c ad0 n C ad H locs ls (hI.st (zos_c trivial (zos_t (zos_t hI.s0)))))
theorem pw_isub {x y : Int32} (hd : decode M.code pc = .ok (.isub, 1)) (kk : PW G M R P Q (pc + 1) pl (.int (x - y) :: st) h nc ns) : PW G M R P Q pc pl (.int y :: .int x :: st) h nc ns := by
  intro p e s m args below meth c ad0 n C ad H locs ls hI
  exact lv_isub C.1 C.2.1 hd (kk p e s m args below meth c ad0 n C ad H locs ls (hI.st (zos_c trivial (zos_t (zos_t hI.s0)))))
theorem pw_imul {x y : Int32} (hd : decode M.code pc = .ok (.imul, 1)) (kk : PW G M R P Q (pc + 1) pl (.int (x * y) :: st) h nc ns) : PW G M R P Q pc pl (.int y :: .int x :: st) h nc ns := by
  intro p e s m args below meth c ad0 n C ad H locs ls hI
  exact lv_imul C.1 C.2.1 hd (kk p e s m args below meth c ad0 n C ad H locs ls (hI.st (zos_c trivial (zos_t (zos_t hI.s0)))))
theorem pw_iand {x y : Int32} (hd : decode M.code pc = .ok (.iand, 1)) (kk : PW G M R P Q (pc + 1) pl (.int (x &&& y) :: st) h nc ns) : PW G M R P Q pc pl (.int y :: .int x :: st) h nc ns := by
  intro p e s m args below meth c ad0 n C ad H locs ls hI
  exact lv_iand C.1 C.2.1 hd (kk p e s m args below meth c ad0 n C ad H locs ls (hI.st (zos_c trivial (zos_t (zos_t hI.s0)))))
theorem pw_ior {x y : Int32} (hd : decode M.code pc = .ok (.ior, 1)) (kk : PW G M R P Q (pc + 1) pl (.int (x ||| y) :: st) h nc ns) : PW G M R P Q pc pl (.int y :: .int x :: st) h nc ns := by
  intro p e s m args below meth c ad0 n C ad H locs ls hI
  exact lv_ior C.1 C.2.1 hd (kk p e s m args below meth c ad0 n C ad H locs ls (hI.st (zos_c trivial (zos_t (zos_t hI.s0)))))
theorem pw_ixor {x y : Int32} (hd : decode M.code pc = .ok (.ixor, 1)) (kk : PW G M R P Q (pc + 1) pl (.int (x ^^^ y) :: st) h nc ns) : PW G M R P Q pc pl (.int y :: .int x :: st) h nc ns := by
  intro p e s m args below meth c ad0 n C ad H locs ls hI
  exact lv_ixor C.1 C.2.1 hd (kk p e s m args below meth c ad0 n C ad H locs ls (hI.st (zos_c trivial (zos_t (zos_t hI.s0)))))
theorem pw_ishl {x y : Int32} (hd : decode M.code pc = .ok (.ishl, 1)) (kk : PW G M R P Q (pc + 1) pl (.int (x <<< (y &&& 31)) :: st) h nc ns) : PW G M R P Q pc pl (.int y :: .int x :: st) h nc ns := by
  intro p e s m args below meth c ad0 n C ad H locs ls hI
  exact lv_ishl C.1 C.2.1 hd (kk p e s m args below meth c ad0 n C ad H locs ls (hI.st (zos_c trivial (zos_t (zos_t hI.s0)))))
theorem pw_ishr {x y : Int32} (hd : decode M.code pc = .ok (.ishr, 1)) (kk : PW G M R P Q (pc + 1) pl (.int (x >>> (y &&& 31)) :: st) h nc ns) : PW G M R P Q pc pl (.int y :: .int x :: st) h nc ns := by
  intro p e s m args below meth c ad0 n C ad H locs ls hI
  exact lv_ishr C.1 C.2.1 hd (kk p e s m args below meth c ad0 n C ad H locs ls (hI.st (zos_c trivial (zos_t (zos_t hI.s0)))))
theorem pw_idiv {x y : Int32} (hd : decode M.code pc = .ok (.idiv, 1)) (hne : ¬ y = 0) (kk : PW G M R P Q (pc + 1) pl (.int (x / y) :: st) h nc ns) : PW G M R P Q pc pl (.int y :: .int x :: st) h nc ns := by
  intro p e s m args below meth c ad0 n C ad H locs ls hI
  exact lv_idiv C.1 C.2.1 hd hne (kk p e s m args below meth c ad0 n C ad H locs ls (hI.st (zos_c trivial (zos_t (zos_t hI.s0)))))
theorem pw_irem {x y : Int32} (hd : decode M.code pc = .ok (.irem, 1)) (hne : ¬ y = 0) (kk : PW G M R P Q (pc + 1) pl (.int (x - x / y * y) :: st) h nc ns) : PW G M R P Q pc pl (.int y :: .int x :: st) h nc ns := by
  intro p e s m args below meth c ad0 n C ad H locs ls hI
  exact lv_irem C.1 C.2.1 hd hne (kk p e s m args below meth c ad0 n C ad H locs ls (hI.st (zos_c trivial (zos_t (zos_t hI.s0)))))
theorem pw_ineg {x : Int32} (hd : decode M.code pc = .ok (.ineg, 1)) (kk : PW G M R P Q (pc + 1) pl (.int (-x) :: st) h nc ns) : PW G M R P Q pc pl (.int x :: st) h nc ns := by
  intro p e s m args below meth c ad0 n C ad H locs ls hI
  exact lv_ineg C.1 C.2.1 hd (kk p e s m args below meth c ad0 n C ad H locs ls (hI.st (zos_c trivial (zos_t hI.s0))))
theorem pw_i2l {x : Int32} (hd : decode M.code pc = .ok (.i2l, 1)) (kk : PW G M R P Q (pc + 1) pl (.long x.toInt64 :: st) h nc ns) : PW G M R P Q pc pl (.int x :: st) h nc ns := by
  intro p e s m args below meth c ad0 n C ad H locs ls hI
  exact lv_i2l C.1 C.2.1 hd rfl (kk p e s m args below meth c ad0 n C ad H locs ls (hI.st (zos_c trivial (zos_t hI.s0))))
theorem pw_ladd {x y : Int64} (hd : decode M.code pc = .ok (.ladd, 1)) (kk : PW G M R P Q (pc + 1) pl (.long (x + y) :: st) h nc ns) : PW G M R P Q pc pl (.long y :: .long x :: st) h nc ns := by
  intro p e s m args below meth c ad0 n C ad H locs ls hI
  exact lv_ladd C.1 C.2.1 hd (kk p e s m args below meth c ad0 n C ad H locs ls (hI.st (zos_c trivial (zos_t (zos_t hI.s0)))))
theorem pw_lsub {x y : Int64} (hd : decode M.code pc = .ok (.lsub, 1)) (kk : PW G M R P Q (pc + 1) pl (.long (x - y) :: st) h nc ns) : PW G M R P Q pc pl (.long y :: .long x :: st) h nc ns := by
  intro p e s m args below meth c ad0 n C ad H locs ls hI
  exact lv_lsub C.1 C.2.1 hd (kk p e s m args below meth c ad0 n C ad H locs ls (hI.st (zos_c trivial (zos_t (zos_t hI.s0)))))
theorem pw_lmul {x y : Int64} (hd : decode M.code pc = .ok (.lmul, 1)) (kk : PW G M R P Q (pc + 1) pl (.long (x * y) :: st) h nc ns) : PW G M R P Q pc pl (.long y :: .long x :: st) h nc ns := by
  intro p e s m args below meth c ad0 n C ad H locs ls hI
  exact lv_lmul C.1 C.2.1 hd (kk p e s m args below meth c ad0 n C ad H locs ls (hI.st (zos_c trivial (zos_t (zos_t hI.s0)))))
theorem pw_ldiv {x y : Int64} (hd : decode M.code pc = .ok (.ldiv, 1)) (hne : ¬ y = 0) (kk : PW G M R P Q (pc + 1) pl (.long (x / y) :: st) h nc ns) : PW G M R P Q pc pl (.long y :: .long x :: st) h nc ns := by
  intro p e s m args below meth c ad0 n C ad H locs ls hI
  exact lv_ldiv C.1 C.2.1 hd hne (kk p e s m args below meth c ad0 n C ad H locs ls (hI.st (zos_c trivial (zos_t (zos_t hI.s0)))))
theorem pw_lrem {x y : Int64} (hd : decode M.code pc = .ok (.lrem, 1)) (hne : ¬ y = 0) (kk : PW G M R P Q (pc + 1) pl (.long (x - x / y * y) :: st) h nc ns) : PW G M R P Q pc pl (.long y :: .long x :: st) h nc ns := by
  intro p e s m args below meth c ad0 n C ad H locs ls hI
  exact lv_lrem C.1 C.2.1 hd hne (kk p e s m args below meth c ad0 n C ad H locs ls (hI.st (zos_c trivial (zos_t (zos_t hI.s0)))))
theorem pw_lneg {x : Int64} (hd : decode M.code pc = .ok (.lneg, 1)) (kk : PW G M R P Q (pc + 1) pl (.long (-x) :: st) h nc ns) : PW G M R P Q pc pl (.long x :: st) h nc ns := by
  intro p e s m args below meth c ad0 n C ad H locs ls hI
  exact lv_lneg C.1 C.2.1 hd (kk p e s m args below meth c ad0 n C ad H locs ls (hI.st (zos_c trivial (zos_t hI.s0))))
theorem pw_l2i {x : Int64} (hd : decode M.code pc = .ok (.l2i, 1)) (kk : PW G M R P Q (pc + 1) pl (.int x.toInt32 :: st) h nc ns) : PW G M R P Q pc pl (.long x :: st) h nc ns := by
  intro p e s m args below meth c ad0 n C ad H locs ls hI
  exact lv_l2i C.1 C.2.1 hd rfl (kk p e s m args below meth c ad0 n C ad H locs ls (hI.st (zos_c trivial (zos_t hI.s0))))
theorem pw_lcmp {x y : Int64} (hd : decode M.code pc = .ok (.lcmp, 1)) (kk : PW G M R P Q (pc + 1) pl (.int (lg_cmp x y) :: st) h nc ns) : PW G M R P Q pc pl (.long y :: .long x :: st) h nc ns := by
  intro p e s m args below meth c ad0 n C ad H locs ls hI
  exact W.lcmp C.1 C.2.1 hd (kk p e s m args below meth c ad0 n C ad H locs ls (hI.st (zos_c trivial (zos_t (zos_t hI.s0)))))
theorem pw_dup {v : Value} (hd : decode M.code pc = .ok (.dup, 1)) (hv : v.category = 1) (kk : PW G M R P Q (pc + 1) pl (v :: v :: st) h nc ns) : PW G M R P Q pc pl (v :: st) h nc ns := by
  intro p e s m args below meth c ad0 n C ad H locs ls hI
  exact lv_dup C.1 C.2.1 hd (by rw [zcat]; exact hv) (kk p e s m args below meth c ad0 n C ad H locs ls (hI.st (zos_c (zos_h hI.s0) hI.s0)))
theorem pw_pop {v : Value} (hd : decode M.code pc = .ok (.pop, 1)) (hv : v.category = 1) (kk : PW G M R P Q (pc + 1) pl st h nc ns) : PW G M R P Q pc pl (v :: st) h nc ns := by
  intro p e s m args below meth c ad0 n C ad H locs ls hI
  exact lv_pop C.1 C.2.1 hd (va := zv ad v) (by rw [zcat]; exact hv) (kk p e s m args below meth c ad0 n C ad H locs ls (hI.st (zos_t hI.s0)))
theorem pw_dup_x1 {v w : Value} (hd : decode M.code pc = .ok (.dup_x1, 1)) (hv : v.category = 1) (hw : w.category = 1) (kk : PW G M R P Q (pc + 1) pl (v :: w :: v :: st) h nc ns) : PW G M R P Q pc pl (v :: w :: st) h nc ns := by
  intro p e s m args below meth c ad0 n C ad H locs ls hI
  exact lv_dup_x1 C.1 C.2.1 hd (by rw [zcat]; exact hv) (by rw [zcat]; exact hw) (kk p e s m args below meth c ad0 n C ad H locs ls (hI.st (zos_c (zos_h hI.s0) (zos_c (zos_h (zos_t hI.s0)) (zos_c (zos_h hI.s0) (zos_t (zos_t hI.s0)))))))
theorem pw_dup_x2 {v w z : Value} (hd : decode M.code pc = .ok (.dup_x2, 1)) (hv : v.category = 1) (hw : w.category = 1) (hz : z.category = 1) (kk : PW G M R P Q (pc + 1) pl (v :: w :: z :: v :: st) h nc ns) : PW G M R P Q pc pl (v :: w :: z :: st) h nc ns := by
  intro p e s m args below meth c ad0 n C ad H locs ls hI
  exact lv_dup_x2 C.1 C.2.1 hd (by rw [zcat]; exact hv) (by rw [zcat]; exact hw) (by rw [zcat]; exact hz) (kk p e s m args below meth c ad0 n C ad H locs ls (hI.st (zos_c (zos_h hI.s0) (zos_c (zos_h (zos_t hI.s0)) (zos_c (zos_h (zos_t (zos_t hI.s0))) (zos_c (zos_h hI.s0) (zos_t (zos_t (zos_t hI.s0)))))))))
theorem pw_dup2 {v w : Value} (hd : decode M.code pc = .ok (.dup2, 1)) (hv : v.category = 1) (hw : w.category = 1) (kk : PW G M R P Q (pc + 1) pl (v :: w :: v :: w :: st) h nc ns) : PW G M R P Q pc pl (v :: w :: st) h nc ns := by
  intro p e s m args below meth c ad0 n C ad H locs ls hI
  exact lv_dup2_11 C.1 C.2.1 hd (by rw [zcat]; exact hv) (by rw [zcat]; exact hw) (kk p e s m args below meth c ad0 n C ad H locs ls (hI.st (zos_c (zos_h hI.s0) (zos_c (zos_h (zos_t hI.s0)) hI.s0))))
theorem pw_if_eq {x : Int32} {off : Int} (tgt : Nat) (hd : decode M.code pc = .ok (.ifCond .eq off, 3)) (ht : (pc : Int) + off = (tgt : Int)) (kt : x = 0 → PW G M R P Q tgt pl st h nc ns) (kf : ¬ (x = 0) → PW G M R P Q (pc + 3) pl st h nc ns) : PW G M R P Q pc pl (.int x :: st) h nc ns := by
  intro p e s m args below meth c ad0 n C ad H locs ls hI
  exact lv_if_eq C.1 C.2.1 hd ht (fun q => kt q p e s m args below meth c ad0 n C ad H locs ls (hI.st (zos_t hI.s0))) (fun q => kf q p e s m args below meth c ad0 n C ad H locs ls (hI.st (zos_t hI.s0)))
theorem pw_if_ne {x : Int32} {off : Int} (tgt : Nat) (hd : decode M.code pc = .ok (.ifCond .ne off, 3)) (ht : (pc : Int) + off = (tgt : Int)) (kt : ¬ x = 0 → PW G M R P Q tgt pl st h nc ns) (kf : x = 0 → PW G M R P Q (pc + 3) pl st h nc ns) : PW G M R P Q pc pl (.int x :: st) h nc ns := by
  intro p e s m args below meth c ad0 n C ad H locs ls hI
  exact lv_if_ne C.1 C.2.1 hd ht (fun q => kt q p e s m args below meth c ad0 n C ad H locs ls (hI.st (zos_t hI.s0))) (fun q => kf q p e s m args below meth c ad0 n C ad H locs ls (hI.st (zos_t hI.s0)))
theorem pw_if_lt {x : Int32} {off : Int} (tgt : Nat) (hd : decode M.code pc = .ok (.ifCond .lt off, 3)) (ht : (pc : Int) + off = (tgt : Int)) (kt : x < 0 → PW G M R P Q tgt pl st h nc ns) (kf : ¬ (x < 0) → PW G M R P Q (pc + 3) pl st h nc ns) : PW G M R P Q pc pl (.int x :: st) h nc ns := by
  intro p e s m args below meth c ad0 n C ad H locs ls hI
  exact lv_if_lt C.1 C.2.1 hd ht (fun q => kt q p e s m args below meth c ad0 n C ad H locs ls (hI.st (zos_t hI.s0))) (fun q => kf q p e s m args below meth c ad0 n C ad H locs ls (hI.st (zos_t hI.s0)))
theorem pw_if_ge {x : Int32} {off : Int} (tgt : Nat) (hd : decode M.code pc = .ok (.ifCond .ge off, 3)) (ht : (pc : Int) + off = (tgt : Int)) (kt : 0 ≤ x → PW G M R P Q tgt pl st h nc ns) (kf : ¬ (0 ≤ x) → PW G M R P Q (pc + 3) pl st h nc ns) : PW G M R P Q pc pl (.int x :: st) h nc ns := by
  intro p e s m args below meth c ad0 n C ad H locs ls hI
  exact lv_if_ge C.1 C.2.1 hd ht (fun q => kt q p e s m args below meth c ad0 n C ad H locs ls (hI.st (zos_t hI.s0))) (fun q => kf q p e s m args below meth c ad0 n C ad H locs ls (hI.st (zos_t hI.s0)))
theorem pw_if_gt {x : Int32} {off : Int} (tgt : Nat) (hd : decode M.code pc = .ok (.ifCond .gt off, 3)) (ht : (pc : Int) + off = (tgt : Int)) (kt : 0 < x → PW G M R P Q tgt pl st h nc ns) (kf : ¬ (0 < x) → PW G M R P Q (pc + 3) pl st h nc ns) : PW G M R P Q pc pl (.int x :: st) h nc ns := by
  intro p e s m args below meth c ad0 n C ad H locs ls hI
  exact lv_if_gt C.1 C.2.1 hd ht (fun q => kt q p e s m args below meth c ad0 n C ad H locs ls (hI.st (zos_t hI.s0))) (fun q => kf q p e s m args below meth c ad0 n C ad H locs ls (hI.st (zos_t hI.s0)))
theorem pw_if_le {x : Int32} {off : Int} (tgt : Nat) (hd : decode M.code pc = .ok (.ifCond .le off, 3)) (ht : (pc : Int) + off = (tgt : Int)) (kt : x ≤ 0 → PW G M R P Q tgt pl st h nc ns) (kf : ¬ (x ≤ 0) → PW G M R P Q (pc + 3) pl st h nc ns) : PW G M R P Q pc pl (.int x :: st) h nc ns := by
  intro p e s m args below meth c ad0 n C ad H locs ls hI
  exact lv_if_le C.1 C.2.1 hd ht (fun q => kt q p e s m args below meth c ad0 n C ad H locs ls (hI.st (zos_t hI.s0))) (fun q => kf q p e s m args below meth c ad0 n C ad H locs ls (hI.st (zos_t hI.s0)))
theorem pw_icmp_eq {x y : Int32} {off : Int} (tgt : Nat) (hd : decode M.code pc = .ok (.if_icmp .eq off, 3)) (ht : (pc : Int) + off = (tgt : Int)) (kt : x = y → PW G M R P Q tgt pl st h nc ns) (kf : ¬ (x = y) → PW G M R P Q (pc + 3) pl st h nc ns) : PW G M R P Q pc pl (.int y :: .int x :: st) h nc ns := by
  intro p e s m args below meth c ad0 n C ad H locs ls hI
  exact lv_icmp_eq C.1 C.2.1 hd ht (fun q => kt q p e s m args below meth c ad0 n C ad H locs ls (hI.st (zos_t (zos_t hI.s0)))) (fun q => kf q p e s m args below meth c ad0 n C ad H locs ls (hI.st (zos_t (zos_t hI.s0))))
theorem pw_icmp_ne {x y : Int32} {off : Int} (tgt : Nat) (hd : decode M.code pc = .ok (.if_icmp .ne off, 3)) (ht : (pc : Int) + off = (tgt : Int)) (kt : ¬ x = y → PW G M R P Q tgt pl st h nc ns) (kf : x = y → PW G M R P Q (pc + 3) pl st h nc ns) : PW G M R P Q pc pl (.int y :: .int x :: st) h nc ns := by
  intro p e s m args below meth c ad0 n C ad H locs ls hI
  exact lv_icmp_ne C.1 C.2.1 hd ht (fun q => kt q p e s m args below meth c ad0 n C ad H locs ls (hI.st (zos_t (zos_t hI.s0)))) (fun q => kf q p e s m args below meth c ad0 n C ad H locs ls (hI.st (zos_t (zos_t hI.s0))))
theorem pw_icmp_lt {x y : Int32} {off : Int} (tgt : Nat) (hd : decode M.code pc = .ok (.if_icmp .lt off, 3)) (ht : (pc : Int) + off = (tgt : Int)) (kt : x < y → PW G M R P Q tgt pl st h nc ns) (kf : ¬ (x < y) → PW G M R P Q (pc + 3) pl st h nc ns) : PW G M R P Q pc pl (.int y :: .int x :: st) h nc ns := by
  intro p e s m args below meth c ad0 n C ad H locs ls hI
  exact lv_icmp_lt C.1 C.2.1 hd ht (fun q => kt q p e s m args below meth c ad0 n C ad H locs ls (hI.st (zos_t (zos_t hI.s0)))) (fun q => kf q p e s m args below meth c ad0 n C ad H locs ls (hI.st (zos_t (zos_t hI.s0))))
theorem pw_icmp_ge {x y : Int32} {off : Int} (tgt : Nat) (hd : decode M.code pc = .ok (.if_icmp .ge off, 3)) (ht : (pc : Int) + off = (tgt : Int)) (kt : y ≤ x → PW G M R P Q tgt pl st h nc ns) (kf : ¬ (y ≤ x) → PW G M R P Q (pc + 3) pl st h nc ns) : PW G M R P Q pc pl (.int y :: .int x :: st) h nc ns := by
  intro p e s m args below meth c ad0 n C ad H locs ls hI
  exact lv_icmp_ge C.1 C.2.1 hd ht (fun q => kt q p e s m args below meth c ad0 n C ad H locs ls (hI.st (zos_t (zos_t hI.s0)))) (fun q => kf q p e s m args below meth c ad0 n C ad H locs ls (hI.st (zos_t (zos_t hI.s0))))
theorem pw_icmp_gt {x y : Int32} {off : Int} (tgt : Nat) (hd : decode M.code pc = .ok (.if_icmp .gt off, 3)) (ht : (pc : Int) + off = (tgt : Int)) (kt : y < x → PW G M R P Q tgt pl st h nc ns) (kf : ¬ (y < x) → PW G M R P Q (pc + 3) pl st h nc ns) : PW G M R P Q pc pl (.int y :: .int x :: st) h nc ns := by
  intro p e s m args below meth c ad0 n C ad H locs ls hI
  exact lv_icmp_gt C.1 C.2.1 hd ht (fun q => kt q p e s m args below meth c ad0 n C ad H locs ls (hI.st (zos_t (zos_t hI.s0)))) (fun q => kf q p e s m args below meth c ad0 n C ad H locs ls (hI.st (zos_t (zos_t hI.s0))))
theorem pw_icmp_le {x y : Int32} {off : Int} (tgt : Nat) (hd : decode M.code pc = .ok (.if_icmp .le off, 3)) (ht : (pc : Int) + off = (tgt : Int)) (kt : x ≤ y → PW G M R P Q tgt pl st h nc ns) (kf : ¬ (x ≤ y) → PW G M R P Q (pc + 3) pl st h nc ns) : PW G M R P Q pc pl (.int y :: .int x :: st) h nc ns := by
  intro p e s m args below meth c ad0 n C ad H locs ls hI
  exact lv_icmp_le C.1 C.2.1 hd ht (fun q => kt q p e s m args below meth c ad0 n C ad H locs ls (hI.st (zos_t (zos_t hI.s0)))) (fun q => kf q p e s m args below meth c ad0 n C ad H locs ls (hI.st (zos_t (zos_t hI.s0))))
theorem pw_goto {off : Int} (tgt : Nat) (hd : decode M.code pc = .ok (.goto off, 3)) (ht : (pc : Int) + off = (tgt : Int)) (kk : PW G M R P Q tgt pl st h nc ns) : PW G M R P Q pc pl st h nc ns := by
  intro p e s m args below meth c ad0 n C ad H locs ls hI
  exact lv_goto C.1 C.2.1 hd ht (kk p e s m args below meth c ad0 n C ad H locs ls hI)
end PWrows
