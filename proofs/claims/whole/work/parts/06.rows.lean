/-! ===== rows of EV: instructions that leave the heap ===== -/
section EVR
variable {G : GG} {l : Launch} {M : MD} {d : Nat} {Q : Option Value → Hp → Prop} {pc : Nat} {lv lv' : List (Option Value)} {st : List Value} {h : Hp} {kc ks : Nat}
theorem EV.same {pc' : Nat} {st' : List Value} (f : ∀ (p : Program) (e : Env) (R : Room) (s : State) (m : MethodId) (args : Array Value) (below : List Frame) (meth : Method) (c : Code) (H : Heap) (locs : List Loc) (cells slots : Nat) (Z : State → Prop) (ls : Array Slot), p.tables.exec = Jvm.exec → c.code = M.2.1 → hasL ls M.2.2.1 lv →
    W p l e R s m args below meth c H locs cells slots Z (F0 m pc' ls st') → W p l e R s m args below meth c H locs cells slots Z (F0 m pc ls st))
    (k : EV G l M d Q pc' lv st' h kc ks) : EV G l M d Q pc lv st h kc ks := by
  intro p e s m args below meth c A mc ms H locs cells slots ls hC hS hR hD hl h1 h2
  exact f _ _ _ _ _ _ _ _ _ _ _ _ _ _ _ hC.1 hC.2.1 hl (k _ _ _ _ _ _ _ _ _ _ _ _ _ _ _ _ hC hS hR hD hl h1 h2)
theorem EV.link {pc' : Nat} {st' : List Value} (f : ∀ (p : Program) (e : Env) (R : Room) (s : State) (m : MethodId) (args : Array Value) (below : List Frame) (meth : Method) (c : Code) (H : Heap) (locs : List Loc) (cells slots : Nat) (Z : State → Prop) (ls : Array Slot), p.tables.exec = Jvm.exec → c.code = M.2.1 → s.vm.findClass M.1.cls = some m.cls → (∀ w ∈ TB, w.before args s = true) →
    W p l e R s m args below meth c H locs cells slots Z (F0 m pc' ls st') → W p l e R s m args below meth c H locs cells slots Z (F0 m pc ls st))
    (k : EV G l M d Q pc' lv st' h kc ks) : EV G l M d Q pc lv st h kc ks := by
  intro p e s m args below meth c A mc ms H locs cells slots ls hC hS hR hD hl h1 h2
  exact f _ _ _ _ _ _ _ _ _ _ _ _ _ _ _ hC.1 hC.2.1 hC.2.2.2.2.1 hC.2.2.2.2.2.2.1 (k _ _ _ _ _ _ _ _ _ _ _ _ _ _ _ _ hC hS hR hD hl h1 h2)
theorem EV.store {pc' : Nat} {st' : List Value} {i : Nat} {v : Value} (hi : i < M.2.2.1) (hv : v.category = 1) (hl : lv.set i (some v) = lv')
    (f : ∀ (p : Program) (e : Env) (R : Room) (s : State) (m : MethodId) (args : Array Value) (below : List Frame) (meth : Method) (c : Code) (H : Heap) (locs : List Loc) (cells slots : Nat) (Z : State → Prop) (ls : Array Slot), p.tables.exec = Jvm.exec → c.code = M.2.1 → lv_has ls M.2.2.1 (lvl lv) →
    (∀ ls' : Array Slot, lv_has ls' M.2.2.1 ((i, v) :: (lvl lv).filter (fun q => !(q.1 == i) && !(q.1 + 1 == i && q.2.category == 2))) → W p l e R s m args below meth c H locs cells slots Z (F0 m pc' ls' st')) → W p l e R s m args below meth c H locs cells slots Z (F0 m pc ls st))
    (k : EV G l M d Q pc' lv' st' h kc ks) : EV G l M d Q pc lv st h kc ks := by
  intro p e s m args below meth c A mc ms H locs cells slots ls hC hS hR hD hls h1 h2
  refine f _ _ _ _ _ _ _ _ _ _ _ _ _ _ _ hC.1 hC.2.1 hls.has (fun ls' hx => ?_)
  have hls' : hasL ls' M.2.2.1 lv' := hl ▸ hls.set hv hx
  exact k _ _ _ _ _ _ _ _ _ _ _ _ _ _ _ _ hC hS hR hD hls' h1 h2
theorem EV.if2 {t1 t2 : Nat} {st' : List Value} {P : Prop} (f : ∀ (p : Program) (e : Env) (R : Room) (s : State) (m : MethodId) (args : Array Value) (below : List Frame) (meth : Method) (c : Code) (H : Heap) (locs : List Loc) (cells slots : Nat) (Z : State → Prop) (ls : Array Slot), p.tables.exec = Jvm.exec → c.code = M.2.1 →
    (P → W p l e R s m args below meth c H locs cells slots Z (F0 m t1 ls st')) → (¬ P → W p l e R s m args below meth c H locs cells slots Z (F0 m t2 ls st')) → W p l e R s m args below meth c H locs cells slots Z (F0 m pc ls st))
    (k1 : P → EV G l M d Q t1 lv st' h kc ks) (k2 : ¬ P → EV G l M d Q t2 lv st' h kc ks) : EV G l M d Q pc lv st h kc ks := by
  intro p e s m args below meth c A mc ms H locs cells slots ls hC hS hR hD hl h1 h2
  exact f _ _ _ _ _ _ _ _ _ _ _ _ _ _ _ hC.1 hC.2.1 (fun hp => k1 hp _ _ _ _ _ _ _ _ _ _ _ _ _ _ _ _ hC hS hR hD hl h1 h2) (fun hp => k2 hp _ _ _ _ _ _ _ _ _ _ _ _ _ _ _ _ hC hS hR hD hl h1 h2)
theorem EV.lvs (hl : lv = lv') (k : EV G l M d Q pc lv' st h kc ks) : EV G l M d Q pc lv st h kc ks := hl ▸ k
theorem EV.pcs {pc' : Nat} (hp : pc = pc') (k : EV G l M d Q pc' lv st h kc ks) : EV G l M d Q pc lv st h kc ks := hp ▸ k
theorem EV.sts {st' : List Value} (hp : st = st') (k : EV G l M d Q pc lv st' h kc ks) : EV G l M d Q pc lv st h kc ks := hp ▸ k
theorem EV.hps {h' : Hp} (hp : h = h') (k : EV G l M d Q pc lv st h' kc ks) : EV G l M d Q pc lv st h kc ks := hp ▸ k
theorem EV.iconst {n : Int} (dg : decode M.2.1 pc = .ok (.iconst n, 1)) (k : EV G l M d Q (pc + 1) lv (.int (zI n) :: st) h kc ks) : EV G l M d Q pc lv st h kc ks :=
  EV.same (fun _ _ _ _ _ _ _ _ _ _ _ _ _ _ _ hx hb _ kk => lv_iconst hx hb dg rfl kk) k
theorem EV.bipush {n : Int} (dg : decode M.2.1 pc = .ok (.bipush n, 2)) (hv : (Int8.ofInt n).toInt32 = zI n) (k : EV G l M d Q (pc + 2) lv (.int (zI n) :: st) h kc ks) : EV G l M d Q pc lv st h kc ks :=
  EV.same (fun _ _ _ _ _ _ _ _ _ _ _ _ _ _ _ hx hb _ kk => lv_bipush hx hb dg hv kk) k
theorem EV.sipush {n : Int} (dg : decode M.2.1 pc = .ok (.sipush n, 3)) (hv : (Int16.ofInt n).toInt32 = zI n) (k : EV G l M d Q (pc + 3) lv (.int (zI n) :: st) h kc ks) : EV G l M d Q pc lv st h kc ks :=
  EV.same (fun _ _ _ _ _ _ _ _ _ _ _ _ _ _ _ hx hb _ kk => lv_sipush hx hb dg hv kk) k
theorem EV.ldc {i : Nat} {n : Int} (dg : decode M.2.1 pc = .ok (.ldc i, 2)) (hw : Cond.constant M.1.cls i (zI n) ∈ TB) (k : EV G l M d Q (pc + 2) lv (.int (zI n) :: st) h kc ks) : EV G l M d Q pc lv st h kc ks :=
  EV.link (fun _ _ _ _ _ _ _ _ _ _ _ _ _ _ _ hx hb ho hts kk => lv_ldc hx hb ho (hts _ hw) dg kk) k
theorem EV.ldcw {i : Nat} {n : Int} (dg : decode M.2.1 pc = .ok (.ldc_w i, 3)) (hw : Cond.constant M.1.cls i (zI n) ∈ TB) (k : EV G l M d Q (pc + 3) lv (.int (zI n) :: st) h kc ks) : EV G l M d Q pc lv st h kc ks :=
  EV.link (fun _ _ _ _ _ _ _ _ _ _ _ _ _ _ _ hx hb ho hts kk => lv_ldcw hx hb ho (hts _ hw) dg kk) k
theorem EV.ldc2 {i : Nat} {n : Int64} (dg : decode M.2.1 pc = .ok (.ldc2_w i, 3)) (hw : Cond.constantLong M.1.cls i n ∈ TB) (k : EV G l M d Q (pc + 3) lv (.long n :: st) h kc ks) : EV G l M d Q pc lv st h kc ks :=
  EV.link (fun _ _ _ _ _ _ _ _ _ _ _ _ _ _ _ hx hb ho hts kk => lv_ldc2 hx hb ho (hts _ hw) dg kk) k
theorem EV.iload_n {q : Fin 4} {i : Nat} {x : Int32} (dg : decode M.2.1 pc = .ok (.iload_n q, 1)) (hi : (q : Nat) = i) (hk : lv[i]? = some (some (.int x))) (k : EV G l M d Q (pc + 1) lv (.int x :: st) h kc ks) : EV G l M d Q pc lv st h kc ks :=
  EV.same (fun _ _ _ _ _ _ _ _ _ _ _ _ _ _ _ hx hb hl kk => lv_iload_n hx hb dg hi (hl.at hk) kk) k
theorem EV.iload {i : Nat} {x : Int32} (dg : decode M.2.1 pc = .ok (.iload i, 2)) (hk : lv[i]? = some (some (.int x))) (k : EV G l M d Q (pc + 2) lv (.int x :: st) h kc ks) : EV G l M d Q pc lv st h kc ks :=
  EV.same (fun _ _ _ _ _ _ _ _ _ _ _ _ _ _ _ hx hb hl kk => lv_iload hx hb dg (hl.at hk) kk) k
theorem EV.aload_n {q : Fin 4} {i a : Nat} (dg : decode M.2.1 pc = .ok (.aload_n q, 1)) (hi : (q : Nat) = i) (hk : lv[i]? = some (some (.ref a))) (k : EV G l M d Q (pc + 1) lv (.ref a :: st) h kc ks) : EV G l M d Q pc lv st h kc ks :=
  EV.same (fun _ _ _ _ _ _ _ _ _ _ _ _ _ _ _ hx hb hl kk => lv_aload_n hx hb dg hi (hl.at hk) kk) k
theorem EV.aload {i a : Nat} (dg : decode M.2.1 pc = .ok (.aload i, 2)) (hk : lv[i]? = some (some (.ref a))) (k : EV G l M d Q (pc + 2) lv (.ref a :: st) h kc ks) : EV G l M d Q pc lv st h kc ks :=
  EV.same (fun _ _ _ _ _ _ _ _ _ _ _ _ _ _ _ hx hb hl kk => lv_aload hx hb dg (hl.at hk) kk) k
theorem EV.aload_nN {q : Fin 4} {i : Nat} (dg : decode M.2.1 pc = .ok (.aload_n q, 1)) (hi : (q : Nat) = i) (hk : lv[i]? = some (some .null)) (k : EV G l M d Q (pc + 1) lv (.null :: st) h kc ks) : EV G l M d Q pc lv st h kc ks :=
  EV.same (fun _ _ _ _ _ _ _ _ _ _ _ _ _ _ _ hx hb hl kk => lv_aload_nN hx hb dg hi (hl.at hk) kk) k
theorem EV.istore_n {q : Fin 4} {i : Nat} {x : Int32} (dg : decode M.2.1 pc = .ok (.istore_n q, 1)) (hi : (q : Nat) = i) (hn : i < M.2.2.1) (hl : lv.set i (some (.int x)) = lv') (k : EV G l M d Q (pc + 1) lv' st h kc ks) : EV G l M d Q pc lv (.int x :: st) h kc ks :=
  EV.store hn rfl hl (fun _ _ _ _ _ _ _ _ _ _ _ _ _ _ _ hx hb hl kk => lv_istore_n hx hb dg hi hl hn rfl kk) k
theorem EV.istore {i : Nat} {x : Int32} (dg : decode M.2.1 pc = .ok (.istore i, 2)) (hn : i < M.2.2.1) (hl : lv.set i (some (.int x)) = lv') (k : EV G l M d Q (pc + 2) lv' st h kc ks) : EV G l M d Q pc lv (.int x :: st) h kc ks :=
  EV.store hn rfl hl (fun _ _ _ _ _ _ _ _ _ _ _ _ _ _ _ hx hb hl kk => lv_istore hx hb dg hl hn rfl kk) k
theorem EV.astore_n {q : Fin 4} {i a : Nat} (dg : decode M.2.1 pc = .ok (.astore_n q, 1)) (hi : (q : Nat) = i) (hn : i < M.2.2.1) (hl : lv.set i (some (.ref a)) = lv') (k : EV G l M d Q (pc + 1) lv' st h kc ks) : EV G l M d Q pc lv (.ref a :: st) h kc ks :=
  EV.store hn rfl hl (fun _ _ _ _ _ _ _ _ _ _ _ _ _ _ _ hx hb hl kk => lv_astore_n hx hb dg hi hl hn rfl kk) k
theorem EV.astore {i a : Nat} (dg : decode M.2.1 pc = .ok (.astore i, 2)) (hn : i < M.2.2.1) (hl : lv.set i (some (.ref a)) = lv') (k : EV G l M d Q (pc + 2) lv' st h kc ks) : EV G l M d Q pc lv (.ref a :: st) h kc ks :=
  EV.store hn rfl hl (fun _ _ _ _ _ _ _ _ _ _ _ _ _ _ _ hx hb hl kk => lv_astore hx hb dg hl hn rfl kk) k
theorem EV.astore_nN {q : Fin 4} {i : Nat} (dg : decode M.2.1 pc = .ok (.astore_n q, 1)) (hi : (q : Nat) = i) (hn : i < M.2.2.1) (hl : lv.set i (some .null) = lv') (k : EV G l M d Q (pc + 1) lv' st h kc ks) : EV G l M d Q pc lv (.null :: st) h kc ks :=
  EV.store hn rfl hl (fun _ _ _ _ _ _ _ _ _ _ _ _ _ _ _ hx hb hl kk => lv_astore_nN hx hb dg hi hl hn rfl kk) k
theorem EV.iinc {i : Nat} {n x : Int} (dg : decode M.2.1 pc = .ok (.iinc i n, 3)) (hk : lv[i]? = some (some (.int (zI x)))) (hn : i < M.2.2.1) (hl : lv.set i (some (.int (zI (x + n)))) = lv') (k : EV G l M d Q (pc + 3) lv' st h kc ks) : EV G l M d Q pc lv st h kc ks := by
  obtain ⟨j, hj⟩ := List.getElem?_of_mem (lvl_mem.mpr hk)
  exact EV.store hn rfl hl (fun _ _ _ _ _ _ _ _ _ _ _ _ _ _ _ hx hb hl kk => lv_iinc hx hb dg hl hj (by rw [show Int32.ofInt n = zI n from rfl, zI_add]) hn rfl kk) k
theorem EV.iadd {x y : Int} (dg : decode M.2.1 pc = .ok (.iadd, 1)) (k : EV G l M d Q (pc + 1) lv (.int (zI (x + y)) :: st) h kc ks) : EV G l M d Q pc lv (.int (zI y) :: .int (zI x) :: st) h kc ks :=
  EV.same (fun _ _ _ _ _ _ _ _ _ _ _ _ _ _ _ hx hb _ kk => lv_iadd hx hb dg (by rw [zI_add]; exact kk)) k
theorem EV.isub {x y : Int} (dg : decode M.2.1 pc = .ok (.isub, 1)) (k : EV G l M d Q (pc + 1) lv (.int (zI (x - y)) :: st) h kc ks) : EV G l M d Q pc lv (.int (zI y) :: .int (zI x) :: st) h kc ks :=
  EV.same (fun _ _ _ _ _ _ _ _ _ _ _ _ _ _ _ hx hb _ kk => lv_isub hx hb dg (by rw [zI_sub]; exact kk)) k
theorem EV.imul {x y : Int} (dg : decode M.2.1 pc = .ok (.imul, 1)) (k : EV G l M d Q (pc + 1) lv (.int (zI (x * y)) :: st) h kc ks) : EV G l M d Q pc lv (.int (zI y) :: .int (zI x) :: st) h kc ks :=
  EV.same (fun _ _ _ _ _ _ _ _ _ _ _ _ _ _ _ hx hb _ kk => lv_imul hx hb dg (by rw [zI_mul]; exact kk)) k
theorem EV.idiv {x y : Int} (dg : decode M.2.1 pc = .ok (.idiv, 1)) (hr : inR x ∧ inR y ∧ y ≠ 0) (k : EV G l M d Q (pc + 1) lv (.int (zI (x.tdiv y)) :: st) h kc ks) : EV G l M d Q pc lv (.int (zI y) :: .int (zI x) :: st) h kc ks :=
  EV.same (fun _ _ _ _ _ _ _ _ _ _ _ _ _ _ _ hx hb _ kk => lv_idiv hx hb dg (fun z => hr.2.2 ((zI_eq0 hr.2.1).mp z)) (by rw [zI_div hr.1 hr.2.1]; exact kk)) k
theorem EV.irem {x y : Int} (dg : decode M.2.1 pc = .ok (.irem, 1)) (hr : inR x ∧ inR y ∧ y ≠ 0) (k : EV G l M d Q (pc + 1) lv (.int (zI (x.tmod y)) :: st) h kc ks) : EV G l M d Q pc lv (.int (zI y) :: .int (zI x) :: st) h kc ks :=
  EV.same (fun _ _ _ _ _ _ _ _ _ _ _ _ _ _ _ hx hb _ kk => lv_irem hx hb dg (fun z => hr.2.2 ((zI_eq0 hr.2.1).mp z)) (by rw [zI_rem hr.1 hr.2.1]; exact kk)) k
/-- the same with any words of 32 bits -/
theorem EV.iandW {x y : Int32} (dg : decode M.2.1 pc = .ok (.iand, 1)) (k : EV G l M d Q (pc + 1) lv (.int (x &&& y) :: st) h kc ks) : EV G l M d Q pc lv (.int y :: .int x :: st) h kc ks :=
  EV.same (fun _ _ _ _ _ _ _ _ _ _ _ _ _ _ _ hx hb _ kk => lv_iand hx hb dg kk) k
theorem EV.iorW {x y : Int32} (dg : decode M.2.1 pc = .ok (.ior, 1)) (k : EV G l M d Q (pc + 1) lv (.int (x ||| y) :: st) h kc ks) : EV G l M d Q pc lv (.int y :: .int x :: st) h kc ks :=
  EV.same (fun _ _ _ _ _ _ _ _ _ _ _ _ _ _ _ hx hb _ kk => lv_ior hx hb dg kk) k
theorem EV.ixorW {x y : Int32} (dg : decode M.2.1 pc = .ok (.ixor, 1)) (k : EV G l M d Q (pc + 1) lv (.int (x ^^^ y) :: st) h kc ks) : EV G l M d Q pc lv (.int y :: .int x :: st) h kc ks :=
  EV.same (fun _ _ _ _ _ _ _ _ _ _ _ _ _ _ _ hx hb _ kk => lv_ixor hx hb dg kk) k
theorem EV.iushrW {x y : Int32} (dg : decode M.2.1 pc = .ok (.iushr, 1)) (k : EV G l M d Q (pc + 1) lv (.int ((x.toUInt32 >>> (y.toUInt32 &&& Int32.toUInt32 31)).toInt32) :: st) h kc ks) : EV G l M d Q pc lv (.int y :: .int x :: st) h kc ks :=
  EV.same (fun _ _ _ _ _ _ _ _ _ _ _ _ _ _ _ hx hb _ kk => lv_iushr hx hb dg rfl kk) k
theorem EV.ishlW {x y : Int32} (dg : decode M.2.1 pc = .ok (.ishl, 1)) (k : EV G l M d Q (pc + 1) lv (.int (x <<< (y &&& 31)) :: st) h kc ks) : EV G l M d Q pc lv (.int y :: .int x :: st) h kc ks :=
  EV.same (fun _ _ _ _ _ _ _ _ _ _ _ _ _ _ _ hx hb _ kk => lv_ishl hx hb dg kk) k
theorem EV.ishrW {x y : Int32} (dg : decode M.2.1 pc = .ok (.ishr, 1)) (k : EV G l M d Q (pc + 1) lv (.int (x >>> (y &&& 31)) :: st) h kc ks) : EV G l M d Q pc lv (.int y :: .int x :: st) h kc ks :=
  EV.same (fun _ _ _ _ _ _ _ _ _ _ _ _ _ _ _ hx hb _ kk => lv_ishr hx hb dg kk) k
theorem EV.i2l {x : Int32} (dg : decode M.2.1 pc = .ok (.i2l, 1)) (k : EV G l M d Q (pc + 1) lv (.long x.toInt64 :: st) h kc ks) : EV G l M d Q pc lv (.int x :: st) h kc ks :=
  EV.same (fun _ _ _ _ _ _ _ _ _ _ _ _ _ _ _ hx hb _ kk => lv_i2l hx hb dg rfl kk) k
theorem EV.dup {v : Value} (dg : decode M.2.1 pc = .ok (.dup, 1)) (hv : v.category = 1) (k : EV G l M d Q (pc + 1) lv (v :: v :: st) h kc ks) : EV G l M d Q pc lv (v :: st) h kc ks :=
  EV.same (fun _ _ _ _ _ _ _ _ _ _ _ _ _ _ _ hx hb _ kk => lv_dup hx hb dg hv kk) k
theorem EV.dup2 {v w : Value} (dg : decode M.2.1 pc = .ok (.dup2, 1)) (hv : v.category = 1) (hw : w.category = 1) (k : EV G l M d Q (pc + 1) lv (v :: w :: v :: w :: st) h kc ks) : EV G l M d Q pc lv (v :: w :: st) h kc ks :=
  EV.same (fun _ _ _ _ _ _ _ _ _ _ _ _ _ _ _ hx hb _ kk => lv_dup2_11 hx hb dg hv hw kk) k
theorem EV.pop {v : Value} (dg : decode M.2.1 pc = .ok (.pop, 1)) (hv : v.category = 1) (k : EV G l M d Q (pc + 1) lv st h kc ks) : EV G l M d Q pc lv (v :: st) h kc ks :=
  EV.same (fun _ _ _ _ _ _ _ _ _ _ _ _ _ _ _ hx hb _ kk => lv_pop hx hb dg hv kk) k
theorem EV.goto {off : Int} {t : Nat} (dg : decode M.2.1 pc = .ok (.goto off, 3)) (ht : (pc : Int) + off = (t : Int)) (k : EV G l M d Q t lv st h kc ks) : EV G l M d Q pc lv st h kc ks :=
  EV.same (fun _ _ _ _ _ _ _ _ _ _ _ _ _ _ _ hx hb _ kk => lv_goto hx hb dg ht kk) k
theorem EV.nonnull {off : Int} {t a : Nat} (dg : decode M.2.1 pc = .ok (.ifnonnull off, 3)) (ht : (pc : Int) + off = (t : Int)) (k : EV G l M d Q t lv st h kc ks) : EV G l M d Q pc lv (.ref a :: st) h kc ks :=
  EV.same (fun _ _ _ _ _ _ _ _ _ _ _ _ _ _ _ hx hb _ kk => lv_ifnonnull hx hb dg ht kk) k
theorem EV.nonnullN {off : Int} (dg : decode M.2.1 pc = .ok (.ifnonnull off, 3)) (k : EV G l M d Q (pc + 3) lv st h kc ks) : EV G l M d Q pc lv (.null :: st) h kc ks :=
  EV.same (fun _ _ _ _ _ _ _ _ _ _ _ _ _ _ _ hx hb _ kk => lv_ifnonnullN hx hb dg kk) k
theorem EV.isnull {off : Int} {a : Nat} (dg : decode M.2.1 pc = .ok (.ifnull off, 3)) (k : EV G l M d Q (pc + 3) lv st h kc ks) : EV G l M d Q pc lv (.ref a :: st) h kc ks :=
  EV.same (fun _ _ _ _ _ _ _ _ _ _ _ _ _ _ _ hx hb _ kk => lv_ifnull hx hb dg kk) k
theorem EV.ifeq {off : Int} {t : Nat} {x : Int} (dg : decode M.2.1 pc = .ok (.ifCond .eq off, 3)) (ht : (pc : Int) + off = (t : Int)) (hr : inR x) (k1 : x = 0 → EV G l M d Q t lv st h kc ks) (k2 : x ≠ 0 → EV G l M d Q (pc + 3) lv st h kc ks) : EV G l M d Q pc lv (.int (zI x) :: st) h kc ks :=
  EV.if2 (fun _ _ _ _ _ _ _ _ _ _ _ _ _ _ _ hx hb a b => lv_if_eq hx hb dg ht (fun z => a ((zI_eq0 hr).mp z)) (fun z => b (fun y => z ((zI_eq0 hr).mpr y)))) k1 k2
theorem EV.ifne {off : Int} {t : Nat} {x : Int} (dg : decode M.2.1 pc = .ok (.ifCond .ne off, 3)) (ht : (pc : Int) + off = (t : Int)) (hr : inR x) (k1 : x ≠ 0 → EV G l M d Q t lv st h kc ks) (k2 : x = 0 → EV G l M d Q (pc + 3) lv st h kc ks) : EV G l M d Q pc lv (.int (zI x) :: st) h kc ks :=
  EV.if2 (P := x ≠ 0) (fun _ _ _ _ _ _ _ _ _ _ _ _ _ _ _ hx hb a b => lv_if_ne hx hb dg ht (fun z => a (fun y => z ((zI_eq0 hr).mpr y))) (fun z => b (fun y => y ((zI_eq0 hr).mp z)))) k1 (fun z => k2 (Classical.not_not.mp z))
theorem EV.iflt {off : Int} {t : Nat} {x : Int} (dg : decode M.2.1 pc = .ok (.ifCond .lt off, 3)) (ht : (pc : Int) + off = (t : Int)) (hr : inR x) (k1 : x < 0 → EV G l M d Q t lv st h kc ks) (k2 : 0 ≤ x → EV G l M d Q (pc + 3) lv st h kc ks) : EV G l M d Q pc lv (.int (zI x) :: st) h kc ks :=
  EV.if2 (fun _ _ _ _ _ _ _ _ _ _ _ _ _ _ _ hx hb a b => lv_if_lt hx hb dg ht (fun z => a ((zI_lt0 hr).mp z)) (fun z => b (fun y => z ((zI_lt0 hr).mpr y)))) k1 (fun z => k2 (Int.not_lt.mp z))
theorem EV.ifge {off : Int} {t : Nat} {x : Int} (dg : decode M.2.1 pc = .ok (.ifCond .ge off, 3)) (ht : (pc : Int) + off = (t : Int)) (hr : inR x) (k1 : 0 ≤ x → EV G l M d Q t lv st h kc ks) (k2 : x < 0 → EV G l M d Q (pc + 3) lv st h kc ks) : EV G l M d Q pc lv (.int (zI x) :: st) h kc ks :=
  EV.if2 (fun _ _ _ _ _ _ _ _ _ _ _ _ _ _ _ hx hb a b => lv_if_ge hx hb dg ht (fun z => a ((zI_0le hr).mp z)) (fun z => b (fun y => z ((zI_0le hr).mpr y)))) k1 (fun z => k2 (Int.not_le.mp z))
theorem EV.ifle {off : Int} {t : Nat} {x : Int} (dg : decode M.2.1 pc = .ok (.ifCond .le off, 3)) (ht : (pc : Int) + off = (t : Int)) (hr : inR x) (k1 : x ≤ 0 → EV G l M d Q t lv st h kc ks) (k2 : 0 < x → EV G l M d Q (pc + 3) lv st h kc ks) : EV G l M d Q pc lv (.int (zI x) :: st) h kc ks :=
  EV.if2 (fun _ _ _ _ _ _ _ _ _ _ _ _ _ _ _ hx hb a b => lv_if_le hx hb dg ht (fun z => a ((zI_le0 hr).mp z)) (fun z => b (fun y => z ((zI_le0 hr).mpr y)))) k1 (fun z => k2 (Int.not_le.mp z))
theorem EV.icmp_eq {off : Int} {t : Nat} {x y : Int} (dg : decode M.2.1 pc = .ok (.if_icmp .eq off, 3)) (ht : (pc : Int) + off = (t : Int)) (hr : inR x ∧ inR y) (k1 : x = y → EV G l M d Q t lv st h kc ks) (k2 : x ≠ y → EV G l M d Q (pc + 3) lv st h kc ks) : EV G l M d Q pc lv (.int (zI y) :: .int (zI x) :: st) h kc ks :=
  EV.if2 (fun _ _ _ _ _ _ _ _ _ _ _ _ _ _ _ hx hb a b => lv_icmp_eq hx hb dg ht (fun z => a ((zI_eq hr.1 hr.2).mp z)) (fun z => b (fun y => z ((zI_eq hr.1 hr.2).mpr y)))) k1 k2
theorem EV.icmp_ne {off : Int} {t : Nat} {x y : Int} (dg : decode M.2.1 pc = .ok (.if_icmp .ne off, 3)) (ht : (pc : Int) + off = (t : Int)) (hr : inR x ∧ inR y) (k1 : x ≠ y → EV G l M d Q t lv st h kc ks) (k2 : x = y → EV G l M d Q (pc + 3) lv st h kc ks) : EV G l M d Q pc lv (.int (zI y) :: .int (zI x) :: st) h kc ks :=
  EV.if2 (P := x ≠ y) (fun _ _ _ _ _ _ _ _ _ _ _ _ _ _ _ hx hb a b => lv_icmp_ne hx hb dg ht (fun z => a (fun y => z ((zI_eq hr.1 hr.2).mpr y))) (fun z => b (fun y => y ((zI_eq hr.1 hr.2).mp z)))) k1 (fun z => k2 (Classical.not_not.mp z))
theorem EV.icmp_lt {off : Int} {t : Nat} {x y : Int} (dg : decode M.2.1 pc = .ok (.if_icmp .lt off, 3)) (ht : (pc : Int) + off = (t : Int)) (hr : inR x ∧ inR y) (k1 : x < y → EV G l M d Q t lv st h kc ks) (k2 : y ≤ x → EV G l M d Q (pc + 3) lv st h kc ks) : EV G l M d Q pc lv (.int (zI y) :: .int (zI x) :: st) h kc ks :=
  EV.if2 (fun _ _ _ _ _ _ _ _ _ _ _ _ _ _ _ hx hb a b => lv_icmp_lt hx hb dg ht (fun z => a ((zI_lt hr.1 hr.2).mp z)) (fun z => b (fun y => z ((zI_lt hr.1 hr.2).mpr y)))) k1 (fun z => k2 (Int.not_lt.mp z))
theorem EV.icmp_ge {off : Int} {t : Nat} {x y : Int} (dg : decode M.2.1 pc = .ok (.if_icmp .ge off, 3)) (ht : (pc : Int) + off = (t : Int)) (hr : inR x ∧ inR y) (k1 : y ≤ x → EV G l M d Q t lv st h kc ks) (k2 : x < y → EV G l M d Q (pc + 3) lv st h kc ks) : EV G l M d Q pc lv (.int (zI y) :: .int (zI x) :: st) h kc ks :=
  EV.if2 (fun _ _ _ _ _ _ _ _ _ _ _ _ _ _ _ hx hb a b => lv_icmp_ge hx hb dg ht (fun z => a ((zI_le hr.2 hr.1).mp z)) (fun z => b (fun y => z ((zI_le hr.2 hr.1).mpr y)))) k1 (fun z => k2 (Int.not_le.mp z))
theorem EV.icmp_gt {off : Int} {t : Nat} {x y : Int} (dg : decode M.2.1 pc = .ok (.if_icmp .gt off, 3)) (ht : (pc : Int) + off = (t : Int)) (hr : inR x ∧ inR y) (k1 : y < x → EV G l M d Q t lv st h kc ks) (k2 : x ≤ y → EV G l M d Q (pc + 3) lv st h kc ks) : EV G l M d Q pc lv (.int (zI y) :: .int (zI x) :: st) h kc ks :=
  EV.if2 (fun _ _ _ _ _ _ _ _ _ _ _ _ _ _ _ hx hb a b => lv_icmp_gt hx hb dg ht (fun z => a ((zI_lt hr.2 hr.1).mp z)) (fun z => b (fun y => z ((zI_lt hr.2 hr.1).mpr y)))) k1 (fun z => k2 (Int.not_lt.mp z))
theorem EV.icmp_le {off : Int} {t : Nat} {x y : Int} (dg : decode M.2.1 pc = .ok (.if_icmp .le off, 3)) (ht : (pc : Int) + off = (t : Int)) (hr : inR x ∧ inR y) (k1 : x ≤ y → EV G l M d Q t lv st h kc ks) (k2 : y < x → EV G l M d Q (pc + 3) lv st h kc ks) : EV G l M d Q pc lv (.int (zI y) :: .int (zI x) :: st) h kc ks :=
  EV.if2 (fun _ _ _ _ _ _ _ _ _ _ _ _ _ _ _ hx hb a b => lv_icmp_le hx hb dg ht (fun z => a ((zI_le hr.1 hr.2).mp z)) (fun z => b (fun y => z ((zI_le hr.1 hr.2).mpr y)))) k1 (fun z => k2 (Int.not_le.mp z))
/-! returns -/
theorem EV.iret {x : Int32} (hr : M.2.2.2 = some .int) (dg : decode M.2.1 pc = .ok (.ireturn, 1)) (hq : Q (some (.int x)) h) : EV G l M d Q pc lv [.int x] h kc ks := by
  intro p e s m args below meth c A mc ms H locs cells slots ls hC hS hR hD hl h1 h2
  refine W.widen (k := mc) (n := ms) (by omega) (by omega) ?_
  exact W.iret hC.1 hC.2.1 (hC.2.2.2.1.trans hr) (fun t ht hW => ⟨⟨_, h, rfl, hq, by rw [ht]; exact hR, hD⟩, hS.F ht⟩) hS.2.2 dg hC.2.2.2.2.2.1
theorem EV.zret {x : Int32} (hr : M.2.2.2 = some .boolean) (hn : narrow .boolean (.int x) = .int x) (dg : decode M.2.1 pc = .ok (.ireturn, 1)) (hq : Q (some (.int x)) h) : EV G l M d Q pc lv [.int x] h kc ks := by
  intro p e s m args below meth c A mc ms H locs cells slots ls hC hS hR hD hl h1 h2
  refine W.widen (k := mc) (n := ms) (by omega) (by omega) ?_
  exact W.zret hC.1 hC.2.1 (hC.2.2.2.1.trans hr) hn (fun t ht hW => ⟨⟨_, h, rfl, hq, by rw [ht]; exact hR, hD⟩, hS.F ht⟩) hS.2.2 dg hC.2.2.2.2.2.1
theorem EV.lret {x : Int64} (hr : M.2.2.2 = some .long) (dg : decode M.2.1 pc = .ok (.lreturn, 1)) (hq : Q (some (.long x)) h) : EV G l M d Q pc lv [.long x] h kc ks := by
  intro p e s m args below meth c A mc ms H locs cells slots ls hC hS hR hD hl h1 h2
  refine W.widen (k := mc) (n := ms) (by omega) (by omega) ?_
  exact W.lret hC.1 hC.2.1 (hC.2.2.2.1.trans hr) (fun t ht hW => ⟨⟨_, h, rfl, hq, by rw [ht]; exact hR, hD⟩, hS.F ht⟩) hS.2.2 dg hC.2.2.2.2.2.1
theorem EV.vret (hr : M.2.2.2 = none) (dg : decode M.2.1 pc = .ok (.return_, 1)) (hq : Q none h) : EV G l M d Q pc lv [] h kc ks := by
  intro p e s m args below meth c A mc ms H locs cells slots ls hC hS hR hD hl h1 h2
  refine W.widen (k := mc) (n := ms) (by omega) (by omega) ?_
  exact W.vret hC.1 hC.2.1 (hC.2.2.2.1.trans hr) (fun t ht hW => ⟨⟨_, h, rfl, hq, by rw [ht]; exact hR, hD⟩, hS.F ht⟩) hS.2.2 dg hC.2.2.2.2.2.1
end EVR
