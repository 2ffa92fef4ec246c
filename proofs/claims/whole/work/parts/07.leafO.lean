set_option maxRecDepth 20000 in
set_option maxHeartbeats 2000000 in
theorem c_cornerPoint {G : zG} {h : zH} {c : Nat} {x y z q a b : Nat → Int32} (hp : zPt h c x y z q a b) (hc : c ≤ 220) {jc bc : Nat} {sx sy sz kn : Int32} {sd fc cc nu pb so : Nat → Int32} (hr : zRk h jc bc sx sy sz kn sd fc cc nu pb so) {k ii : Nat} (hk : k < 64) (hii : ii < 220) : PW G M_Rock_cornerPoint (zroom 3 0 0) false (fun r h' => r = .inl (some (.int ((zcp (sd k ||| 1344) x y z q a b so c).2 ii))) ∧ zRk h' jc bc sx sy sz kn sd fc cc nu pb (zcp (sd k ||| 1344) x y z q a b so c).2 ∧ zsm [48] h h') 0 (zentry 6 [.ref 34, .int (nI k), .int (nI ii)]) [] h 0 0 := by
  show PW G M_Rock_cornerPoint (zroom 3 0 0) false _ 0 [some (.ref 34), some (.int (nI k)), some (.int (nI ii)), none, none, none] [] h 0 0
  refine pw_aload_n d_Rock_cornerPoint_0 rfl rfl ?_
  refine pw_get d_Rock_cornerPoint_1 fl_Rock_24 hr.1 rfl ?_
  refine pw_iload_n d_Rock_cornerPoint_4 rfl rfl ?_
  refine pw_iald d_Rock_cornerPoint_5 hr.2.1 rfl rfl hk (by decide) ?_
  refine pw_sipush (x := 1344) d_Rock_cornerPoint_6 (by decide) ?_
  refine pw_ior d_Rock_cornerPoint_9 ?_
  refine pw_istore_n d_Rock_cornerPoint_10 rfl (by decide) (pl' := [some (.ref 34), some (.int (nI k)), some (.int (nI ii)), some (.int ((sd k ||| 1344))), none, none]) rfl ?_
  refine pw_iconst (x := 0) d_Rock_cornerPoint_11 (by decide) ?_
  refine pw_istore d_Rock_cornerPoint_12 (by decide) (pl' := [some (.ref 34), some (.int (nI k)), some (.int (nI ii)), some (.int ((sd k ||| 1344))), some (.int (0)), none]) rfl ?_
  refine pw_iconst (x := 0) d_Rock_cornerPoint_14 (by decide) ?_
  refine pw_istore d_Rock_cornerPoint_15 (by decide) (pl' := [some (.ref 34), some (.int (nI k)), some (.int (nI ii)), some (.int ((sd k ||| 1344))), some (.int (0)), some (.int (0))]) rfl ?_
  exact l_cornerPoint hc hii (c + 1) 0 h (by omega) (by omega) hr hp zsm_rf
