/-! THE CLAIM OUT OF ONE WALK OF THE LAW'S BODY. Your part is whole_start (and what it stands on); all else here is the same for every law, but numbers. -/
def R_law : String := "WeekOrdersLaw"
def lw_P (b : Addr) (xs : List Int32) (args : Array Value) (s : State) : Prop := args = #[.ref b] ∧ s.IntsAt b xs ∧ xs.length ≤ 256 ∧ (Jvm.Cond.and given_1 narrow_1).before args s = true
def lw_Q (_ : Array Value) (s : State) (o : Outcome) (t : State) : Prop := o = .returned (some (.int 1)) ∧ Framed s o t [] 600000 7302250
def lw_Z (below : List Frame) (a : Array Value) (s : State) : State → Prop := fun t => ∃ o, t.status = .running ∧ Ended t below o ∧ lw_Q a s o t
/-- the law's own end, with 1 on the stack, nothing written that was there before, its room as the claim has it -/
theorem lw_ret {p : Program} {l : Launch} {e : Env} {s : State} {m : MethodId} {below : List Frame} {meth : Method} {c : Code} {b : Nat} (hx : p.tables.exec = Jvm.exec) (hb : c.code = code) (hr : meth.sig.returnType = ret) (hlocks : meth.locks = false) {pc : Nat} {H : Heap} {ls : Array Slot} (hdg : decode code pc = .ok (.ireturn, 1)) : W p l e room_1 s m #[Value.ref b] below meth c H [] 600000 7302250 (lw_Z below #[Value.ref b] s) (F0 m pc ls [.int 1]) := by
  intro T hT X
  obtain ⟨fs, hret, hrun, hended, hW, hframe⟩ := X.leave (v := some (.int 1)) (hlocks := hlocks) (fun h => by rw [hr] at h; cases h)
  have hmeth' : T.vm.method? m = some meth := X.method'
  refine ⟨T.setFrames fs, ?_, .returned (some (.int 1)), hrun, hended, rfl, ⟨_, rfl⟩, hW, hframe⟩
  jvm_step X.here [X.here.top, hx, hb, hdg, hmeth', hr, ret, narrow_b1]
  (try refine ⟨rfl, ?_⟩); (try refine ⟨rfl, ?_⟩)
  first | (intro acts; rw [hret _ acts rfl rfl rfl]) | rw [hret _ _ rfl rfl rfl]
  exact Steps.refl _
/-- what holds at the law's entry: the machine, the code, the tables' words (any of lw_tbl by 'hts w (by decide +kernel)'), the script of L ints xs at the cell b, what the Statement gives of the start (any of its parts by flat_of_before) -/
def lw_At (p : Program) (s : State) (m : MethodId) (meth : Method) (c : Code) (b L : Nat) (xs : Nat → Int32) : Prop :=
  p.tables.exec = Jvm.exec ∧ c.code = code ∧ meth.sig.returnType = ret ∧ c.maxLocals = 4 ∧ s.vm.findClass R_law = some m.cls ∧ (∀ w ∈ lw_tbl, w.before #[Value.ref b] s = true) ∧ va_X b L xs s s.heap ∧ b < s.heap.size ∧ meth.locks = false ∧ (Jvm.Cond.and given_1 narrow_1).before #[Value.ref b] s = true
/-! ===== the law's walk ===== -/
def EL (G : GG) (b L : Nat) (xs : Nat → Int32) (l : Launch) (pc : Nat) (lv : List (Option Value)) (st : List Value) (h : Hp) (kc ks : Nat) : Prop :=
  ∀ (p : Program) (e : Env) (s : State) (m : MethodId) (below : List Frame) (meth : Method) (c : Code) (H : Heap) (locs : List Loc) (cells slots : Nat) (ls : Array Slot),
    lw_At p s m meth c b L xs → Cx G s → va_S (fun q : Nat => s.heap.size ≤ q) s.heap H locs → Rl G h H → (∀ q : Nat, (h q).isSome = true → s.heap.size ≤ q) → hasL ls 4 lv → cells + kc ≤ 600000 → slots + ks ≤ 7302250 →
    W p l e room_1 s m #[Value.ref b] below meth c H locs cells slots (lw_Z below #[Value.ref b] s) (F0 m pc ls st)
theorem lw_TB {p : Program} {s : State} {m : MethodId} {meth : Method} {c : Code} {b L : Nat} {xs : Nat → Int32} (h : lw_At p s m meth c b L xs) : ∀ w ∈ TB, w.before #[Value.ref b] s = true := fun w hw => h.2.2.2.2.2.1 w (List.mem_filter.mp hw).1
section ELR
variable {G : GG} {b L : Nat} {xs : Nat → Int32} {l : Launch} {pc : Nat} {lv lv' : List (Option Value)} {st : List Value} {h : Hp} {kc ks : Nat}
theorem EL.same {pc' : Nat} {st' : List Value} (f : ∀ (p : Program) (e : Env) (R : Room) (s : State) (m : MethodId) (args : Array Value) (below : List Frame) (meth : Method) (c : Code) (H : Heap) (locs : List Loc) (cells slots : Nat) (Z : State → Prop) (ls : Array Slot), p.tables.exec = Jvm.exec → c.code = code → hasL ls 4 lv →
    W p l e R s m args below meth c H locs cells slots Z (F0 m pc' ls st') → W p l e R s m args below meth c H locs cells slots Z (F0 m pc ls st))
    (k : EL G b L xs l pc' lv st' h kc ks) : EL G b L xs l pc lv st h kc ks := by
  intro p e s m below meth c H locs cells slots ls hC hX hS hR hD hl h1 h2
  exact f _ _ _ _ _ _ _ _ _ _ _ _ _ _ _ hC.1 hC.2.1 hl (k _ _ _ _ _ _ _ _ _ _ _ _ hC hX hS hR hD hl h1 h2)
theorem EL.store {pc' : Nat} {st' : List Value} {i : Nat} {v : Value} (hi : i < 4) (hv : v.category = 1) (hl : lv.set i (some v) = lv')
    (f : ∀ (p : Program) (e : Env) (R : Room) (s : State) (m : MethodId) (args : Array Value) (below : List Frame) (meth : Method) (c : Code) (H : Heap) (locs : List Loc) (cells slots : Nat) (Z : State → Prop) (ls : Array Slot), p.tables.exec = Jvm.exec → c.code = code → lv_has ls 4 (lvl lv) →
    (∀ ls' : Array Slot, lv_has ls' 4 ((i, v) :: (lvl lv).filter (fun q => !(q.1 == i) && !(q.1 + 1 == i && q.2.category == 2))) → W p l e R s m args below meth c H locs cells slots Z (F0 m pc' ls' st')) → W p l e R s m args below meth c H locs cells slots Z (F0 m pc ls st))
    (k : EL G b L xs l pc' lv' st' h kc ks) : EL G b L xs l pc lv st h kc ks := by
  intro p e s m below meth c H locs cells slots ls hC hX hS hR hD hls h1 h2
  refine f _ _ _ _ _ _ _ _ _ _ _ _ _ _ _ hC.1 hC.2.1 hls.has (fun ls' hx => ?_)
  have hls' : hasL ls' 4 lv' := hl ▸ hls.set hv hx
  exact k _ _ _ _ _ _ _ _ _ _ _ _ hC hX hS hR hD hls' h1 h2
theorem EL.if2 {t1 t2 : Nat} {st' : List Value} {P : Prop} (f : ∀ (p : Program) (e : Env) (R : Room) (s : State) (m : MethodId) (args : Array Value) (below : List Frame) (meth : Method) (c : Code) (H : Heap) (locs : List Loc) (cells slots : Nat) (Z : State → Prop) (ls : Array Slot), p.tables.exec = Jvm.exec → c.code = code →
    (P → W p l e R s m args below meth c H locs cells slots Z (F0 m t1 ls st')) → (¬ P → W p l e R s m args below meth c H locs cells slots Z (F0 m t2 ls st')) → W p l e R s m args below meth c H locs cells slots Z (F0 m pc ls st))
    (k1 : P → EL G b L xs l t1 lv st' h kc ks) (k2 : ¬ P → EL G b L xs l t2 lv st' h kc ks) : EL G b L xs l pc lv st h kc ks := by
  intro p e s m below meth c H locs cells slots ls hC hX hS hR hD hl h1 h2
  exact f _ _ _ _ _ _ _ _ _ _ _ _ _ _ _ hC.1 hC.2.1 (fun hp => k1 hp _ _ _ _ _ _ _ _ _ _ _ _ hC hX hS hR hD hl h1 h2) (fun hp => k2 hp _ _ _ _ _ _ _ _ _ _ _ _ hC hX hS hR hD hl h1 h2)
theorem EL.kle {kc' ks' : Nat} (h1 : kc' ≤ kc) (h2 : ks' ≤ ks) (k : EL G b L xs l pc lv st h kc' ks') : EL G b L xs l pc lv st h kc ks := fun _ _ _ _ _ _ _ _ _ _ _ _ hC hX hS hR hD hl g1 g2 => k _ _ _ _ _ _ _ _ _ _ _ _ hC hX hS hR hD hl (by omega) (by omega)
theorem EL.sts {st' : List Value} (hp : st = st') (k : EL G b L xs l pc lv st' h kc ks) : EL G b L xs l pc lv st h kc ks := hp ▸ k
theorem EL.lvs (hp : lv = lv') (k : EL G b L xs l pc lv' st h kc ks) : EL G b L xs l pc lv st h kc ks := hp ▸ k
theorem EL.hps {h' : Hp} (hp : h = h') (k : EL G b L xs l pc lv st h' kc ks) : EL G b L xs l pc lv st h kc ks := hp ▸ k
theorem EL.top {x y : Int32} (e : x = y) (k : EL G b L xs l pc lv (.int y :: st) h kc ks) : EL G b L xs l pc lv (.int x :: st) h kc ks := e ▸ k
theorem EL.iconst {n : Int} (dg : decode code pc = .ok (.iconst n, 1)) (k : EL G b L xs l (pc + 1) lv (.int (zI n) :: st) h kc ks) : EL G b L xs l pc lv st h kc ks :=
  EL.same (fun _ _ _ _ _ _ _ _ _ _ _ _ _ _ _ hx hb _ kk => lv_iconst hx hb dg rfl kk) k
theorem EL.bipush {n : Int} (dg : decode code pc = .ok (.bipush n, 2)) (hv : (Int8.ofInt n).toInt32 = zI n) (k : EL G b L xs l (pc + 2) lv (.int (zI n) :: st) h kc ks) : EL G b L xs l pc lv st h kc ks :=
  EL.same (fun _ _ _ _ _ _ _ _ _ _ _ _ _ _ _ hx hb _ kk => lv_bipush hx hb dg hv kk) k
theorem EL.iload_n {q : Fin 4} {i : Nat} {x : Int32} (dg : decode code pc = .ok (.iload_n q, 1)) (hi : (q : Nat) = i) (hk : lv[i]? = some (some (.int x))) (k : EL G b L xs l (pc + 1) lv (.int x :: st) h kc ks) : EL G b L xs l pc lv st h kc ks :=
  EL.same (fun _ _ _ _ _ _ _ _ _ _ _ _ _ _ _ hx hb hl kk => lv_iload_n hx hb dg hi (hl.at hk) kk) k
theorem EL.aload_n {q : Fin 4} {i a : Nat} (dg : decode code pc = .ok (.aload_n q, 1)) (hi : (q : Nat) = i) (hk : lv[i]? = some (some (.ref a))) (k : EL G b L xs l (pc + 1) lv (.ref a :: st) h kc ks) : EL G b L xs l pc lv st h kc ks :=
  EL.same (fun _ _ _ _ _ _ _ _ _ _ _ _ _ _ _ hx hb hl kk => lv_aload_n hx hb dg hi (hl.at hk) kk) k
theorem EL.istore_n {q : Fin 4} {i : Nat} {x : Int32} (dg : decode code pc = .ok (.istore_n q, 1)) (hi : (q : Nat) = i) (hn : i < 4) (hl : lv.set i (some (.int x)) = lv') (k : EL G b L xs l (pc + 1) lv' st h kc ks) : EL G b L xs l pc lv (.int x :: st) h kc ks :=
  EL.store hn rfl hl (fun _ _ _ _ _ _ _ _ _ _ _ _ _ _ _ hx hb hl kk => lv_istore_n hx hb dg hi hl hn rfl kk) k
theorem EL.astore_n {q : Fin 4} {i a : Nat} (dg : decode code pc = .ok (.astore_n q, 1)) (hi : (q : Nat) = i) (hn : i < 4) (hl : lv.set i (some (.ref a)) = lv') (k : EL G b L xs l (pc + 1) lv' st h kc ks) : EL G b L xs l pc lv (.ref a :: st) h kc ks :=
  EL.store hn rfl hl (fun _ _ _ _ _ _ _ _ _ _ _ _ _ _ _ hx hb hl kk => lv_astore_n hx hb dg hi hl hn rfl kk) k
theorem EL.iinc {i : Nat} {n x : Int} (dg : decode code pc = .ok (.iinc i n, 3)) (hk : lv[i]? = some (some (.int (zI x)))) (hn : i < 4) (hl : lv.set i (some (.int (zI (x + n)))) = lv') (k : EL G b L xs l (pc + 3) lv' st h kc ks) : EL G b L xs l pc lv st h kc ks := by
  obtain ⟨j, hj⟩ := List.getElem?_of_mem (lvl_mem.mpr hk)
  exact EL.store hn rfl hl (fun _ _ _ _ _ _ _ _ _ _ _ _ _ _ _ hx hb hl kk => lv_iinc hx hb dg hl hj (by rw [show Int32.ofInt n = zI n from rfl, zI_add]) hn rfl kk) k
theorem EL.iadd {x y : Int} (dg : decode code pc = .ok (.iadd, 1)) (k : EL G b L xs l (pc + 1) lv (.int (zI (x + y)) :: st) h kc ks) : EL G b L xs l pc lv (.int (zI y) :: .int (zI x) :: st) h kc ks :=
  EL.same (fun _ _ _ _ _ _ _ _ _ _ _ _ _ _ _ hx hb _ kk => lv_iadd hx hb dg (by rw [zI_add]; exact kk)) k
theorem EL.isub {x y : Int} (dg : decode code pc = .ok (.isub, 1)) (k : EL G b L xs l (pc + 1) lv (.int (zI (x - y)) :: st) h kc ks) : EL G b L xs l pc lv (.int (zI y) :: .int (zI x) :: st) h kc ks :=
  EL.same (fun _ _ _ _ _ _ _ _ _ _ _ _ _ _ _ hx hb _ kk => lv_isub hx hb dg (by rw [zI_sub]; exact kk)) k
theorem EL.iandW {x y : Int32} (dg : decode code pc = .ok (.iand, 1)) (k : EL G b L xs l (pc + 1) lv (.int (x &&& y) :: st) h kc ks) : EL G b L xs l pc lv (.int y :: .int x :: st) h kc ks :=
  EL.same (fun _ _ _ _ _ _ _ _ _ _ _ _ _ _ _ hx hb _ kk => lv_iand hx hb dg kk) k
theorem EL.dup {v : Value} (dg : decode code pc = .ok (.dup, 1)) (hv : v.category = 1) (k : EL G b L xs l (pc + 1) lv (v :: v :: st) h kc ks) : EL G b L xs l pc lv (v :: st) h kc ks :=
  EL.same (fun _ _ _ _ _ _ _ _ _ _ _ _ _ _ _ hx hb _ kk => lv_dup hx hb dg hv kk) k
theorem EL.goto {off : Int} {t : Nat} (dg : decode code pc = .ok (.goto off, 3)) (ht : (pc : Int) + off = (t : Int)) (k : EL G b L xs l t lv st h kc ks) : EL G b L xs l pc lv st h kc ks :=
  EL.same (fun _ _ _ _ _ _ _ _ _ _ _ _ _ _ _ hx hb _ kk => lv_goto hx hb dg ht kk) k
theorem EL.icmp_gt {off : Int} {t : Nat} {x y : Int} (dg : decode code pc = .ok (.if_icmp .gt off, 3)) (ht : (pc : Int) + off = (t : Int)) (hr : inR x ∧ inR y) (k1 : y < x → EL G b L xs l t lv st h kc ks) (k2 : x ≤ y → EL G b L xs l (pc + 3) lv st h kc ks) : EL G b L xs l pc lv (.int (zI y) :: .int (zI x) :: st) h kc ks :=
  EL.if2 (fun _ _ _ _ _ _ _ _ _ _ _ _ _ _ _ hx hb a b => lv_icmp_gt hx hb dg ht (fun z => a ((zI_lt hr.2 hr.1).mp z)) (fun z => b (fun y => z ((zI_lt hr.2 hr.1).mpr y)))) k1 (fun z => k2 (Int.not_lt.mp z))
/-- both answers are one -/
theorem EL.eqv {off : Int} {t : Nat} {x : Int32} (dg : decode code pc = .ok (.if_icmp .eq off, 3)) (ht : (pc : Int) + off = (t : Int)) (k1 : EL G b L xs l t lv st h kc ks) : EL G b L xs l pc lv (.int x :: .int x :: st) h kc ks :=
  EL.if2 (P := x = x) (fun _ _ _ _ _ _ _ _ _ _ _ _ _ _ _ hx hb a b => lv_icmp_eq hx hb dg ht a b) (fun _ => k1) (fun z => absurd rfl z)
theorem EL.eql {off : Int} {t : Nat} {x : Int64} (dg1 : decode code pc = .ok (.lcmp, 1)) (dg2 : decode code (pc + 1) = .ok (.ifCond .eq off, 3)) (ht : ((pc + 1 : Nat) : Int) + off = (t : Int)) (k1 : EL G b L xs l t lv st h kc ks) : EL G b L xs l pc lv (.long x :: .long x :: st) h kc ks :=
  EL.same (fun _ _ _ _ _ _ _ _ _ _ _ _ _ _ _ hx hb _ kk => W.lcmp hx hb dg1 (by rw [show lg_cmp x x = 0 by simp [lg_cmp]]; exact kk)) (EL.if2 (P := (0 : Int32) = 0) (fun _ _ _ _ _ _ _ _ _ _ _ _ _ _ _ hx hb a b => lv_if_eq hx hb dg2 ht a b) (fun _ => k1) (fun z => absurd rfl z))
theorem EL.tabIn {dflt lo hi : Int} {offs : Array Int} {len : Nat} {x off : Int} {t : Nat} (dg : decode code pc = .ok (.tableswitch dflt lo hi offs, len)) (hr : inR x) (h1 : lo ≤ x ∧ x ≤ hi) (ho : offs[(x - lo).toNat]? = some off) (ht : (pc : Int) + off = (t : Int)) (k : EL G b L xs l t lv st h kc ks) : EL G b L xs l pc lv (.int (zI x) :: st) h kc ks :=
  EL.same (fun _ _ _ _ _ _ _ _ _ _ _ _ _ _ _ hx hb _ kk => lv_tableIn hx hb dg (by rw [zI_toInt hr]; omega) (by rw [zI_toInt hr]; omega) (by rw [zI_toInt hr]; exact ho) ht kk) k
theorem EL.tabOut {dflt lo hi : Int} {offs : Array Int} {len : Nat} {x : Int} {t : Nat} (dg : decode code pc = .ok (.tableswitch dflt lo hi offs, len)) (hr : inR x) (h1 : x < lo ∨ hi < x) (ht : (pc : Int) + dflt = (t : Int)) (k : EL G b L xs l t lv st h kc ks) : EL G b L xs l pc lv (.int (zI x) :: st) h kc ks :=
  EL.same (fun _ _ _ _ _ _ _ _ _ _ _ _ _ _ _ hx hb _ kk => lv_tableOut hx hb dg (by rw [zI_toInt hr]; exact h1) ht kk) k
/-- the script's ints -/
def sc (xs : Nat → Int32) (j : Nat) : Int := (xs j).toInt
theorem sc_in (xs : Nat → Int32) (j : Nat) : inR (sc xs j) := ⟨Int.le_trans (by decide) (xs j).le_toInt, Int.lt_of_lt_of_le (xs j).toInt_lt (by decide)⟩
theorem sc_zI (xs : Nat → Int32) (j : Nat) : xs j = zI (sc xs j) := (Int32.ofInt_toInt (xs j)).symm
theorem EL.slen (dg : decode code pc = .ok (.arraylength, 1)) (k : EL G b L xs l (pc + 1) lv (.int (zI (L : Int)) :: st) h kc ks) : EL G b L xs l pc lv (.ref b :: st) h kc ks := by
  intro p e s m below meth c H locs cells slots ls hC hX hS hR hD hl h1 h2
  refine va_slen hC.1 hC.2.1 hC.2.2.2.2.2.2.1 hC.2.2.2.2.2.2.2.1 (Nat.not_le.mpr hC.2.2.2.2.2.2.2.1) hS dg ?_
  rw [show Int32.ofNat L = zI (L : Int) from (zI_nat L).symm]
  exact k _ _ _ _ _ _ _ _ _ _ _ _ hC hX hS hR hD hl h1 h2
theorem EL.sld {i : Int} (j : Nat) (hj : i = (j : Int)) (hn : j < L) (hL : L ≤ 256) (dg : decode code pc = .ok (.iaload, 1)) (k : EL G b L xs l (pc + 1) lv (.int (zI (sc xs j)) :: st) h kc ks) : EL G b L xs l pc lv (.int (zI i) :: .ref b :: st) h kc ks := by
  intro p e s m below meth c H locs cells slots ls hC hX hS hR hD hl h1 h2
  subst hj
  refine va_sld hC.1 hC.2.1 hC.2.2.2.2.2.2.1 hC.2.2.2.2.2.2.2.1 (Nat.not_le.mpr hC.2.2.2.2.2.2.2.1) hS (zI_in hn (by omega)) dg ?_
  rw [zI_clampN (by omega), sc_zI xs j]
  exact k _ _ _ _ _ _ _ _ _ _ _ _ hC hX hS hR hD hl h1 h2
theorem EL.new {index ci N : Nat} {tyf : Nat → FieldType} {fs : List Value} (fl : FN RL index ci N tyf) (dg : decode code pc = .ok (.new index, 3)) (hfs : ∀ j, j < N → defaultValue (tyf j) = vp_V fs j) (hc1 : 1 ≤ kc) (hc2 : N ≤ ks) (kk : ∀ q : Nat, h q = none → EL G b L xs l (pc + 3) lv (.ref q :: st) (hset h q (obj ci fs)) (kc - 1) (ks - N)) : EL G b L xs l pc lv st h kc ks := by
  intro p e s m below meth c H locs cells slots ls hC hX hS hR hD hl h1 h2
  obtain ⟨C, T, hc, hin, hty, w1, w2, w3⟩ := fl
  obtain ⟨ws, hP, hDw, hcm⟩ := hR
  have hts := lw_TB hC
  refine va_new (Ts := TB) (C := C) (T := T) (N := N) (ci := ci) (fs := fs) hC.1 hC.2.1 hts hin tyf hty hC.2.2.2.2.1 (hts _ w1) (hts _ w2) (hts _ w3) hX.1 hP (hDw.weaken fun _ q _ x => hD q.1 x) hS (fun _ z => z) hc hfs (by show cells + 1 ≤ 600000; omega) (by show slots + N ≤ 7302250; omega) dg (fun q H1 hP1 hD1 hS1 => ?_)
  obtain ⟨z1, z2, z3⟩ := Rl.push hDw hcm hP1 hD1
  exact kk q z1 _ _ _ _ _ _ _ _ _ _ _ _ hC hX hS1 z3 (hD_new z2 hD) hl (by omega) (by omega)
section ELC
variable {M' : MD} {d idx n mc' ms' a : Nat} {Q' : Option Value → Hp → Prop} {rest as : List Value}
theorem EL.callV {ci : Nat} {fs : List Value} {r : vw_C} (w1 : Cond.methodLink RL idx M'.1 ∈ TB) (w2 : Cond.instanceMethod M'.1 ∈ TB) (w4 : Cond.selects r.1 M'.1 M'.1 ∈ TB) (hc : vwCl[ci]? = some r) (w3 : CO M' n) (dg : decode code pc = .ok (.invokevirtual idx, 3)) (hb : h a = some (obj ci fs)) (ct : CT G l M' d mc' ms' (.ref a :: as) h Q') (hd : d ≤ 1000) (hn : as.length = n) (hst : st = as.reverse ++ .ref a :: rest) (hW : (rest.map fun v => v.category).sum ≤ 8) (hc1 : mc' ≤ kc) (hc2 : ms' ≤ ks)
    (kk : ∀ (v : Option Value) (h' : Hp), Q' v h' → EL G b L xs l (pc + 3) lv (v.toList ++ rest) h' (kc - mc') (ks - ms')) : EL G b L xs l pc lv st h kc ks := by
  intro p e s m below meth c H locs cells slots ls hC hX hS hR hD hl h1 h2
  have hts := lw_TB hC
  have hm := w3.2.2.2
  subst hst
  refine EV.ret_of (A := fun q : Nat => s.heap.size ≤ q) (st0 := as.reverse ++ .ref a :: rest) (va_runV (Ts := TB) (As := as) (C := r.1) (b := a) (rest := rest) (g := F0 m pc ls (as.reverse ++ .ref a :: rest)) ⟨hC.1, hC.2.1, hC.2.2.2.1, hC.2.2.2.2.1, hts⟩ (ct H.size) ⟨callB_of (ws' := TB) n hts (TBw_good M' w3.1) rfl rfl rfl (hts _ w3.2.1) (hts _ w1) w3.2.2.1 ⟨by show d + 1 ≤ 2048; omega, by show 8 + (M'.2.2.1 + 11) + 64 * d ≤ 84000; omega⟩, hts _ w2, hts _ w4⟩ (EV.preV hX hR hb hc) rfl hn hl.1 rfl (by show 2 * 0 + _ ≤ 8; omega) dg ⟨by show cells + mc' ≤ 600000; omega, by show slots + ms' ≤ 7302250; omega⟩) hS (fun _ z => z) hD (fun v h' H1 locs1 hq hR1 hD1 hS1 => ?_)
  exact kk v h' hq _ _ _ _ _ _ _ _ _ _ _ _ hC hX hS1 hR1 hD1 hl (by omega) (by omega)
theorem EL.callI (hret : M'.2.2.2 = none) (hnm : M'.1.name = "<init>") (w1 : Cond.methodLink RL idx M'.1 ∈ TB) (w2 : Cond.instanceMethod M'.1 ∈ TB) (w3 : CO M' n) (dg : decode code pc = .ok (.invokespecial idx, 3)) (ct : CT G l M' d mc' ms' (.ref a :: as) h Q') (hd : d ≤ 1000) (hn : as.length = n) (hst : st = as.reverse ++ .ref a :: rest) (hW : (rest.map fun v => v.category).sum ≤ 8) (hc1 : mc' ≤ kc) (hc2 : ms' ≤ ks)
    (kk : ∀ (v : Option Value) (h' : Hp), Q' v h' → EL G b L xs l (pc + 3) lv (v.toList ++ rest) h' (kc - mc') (ks - ms')) : EL G b L xs l pc lv st h kc ks := by
  intro p e s m below meth c H locs cells slots ls hC hX hS hR hD hl h1 h2
  have hts := lw_TB hC
  subst hst
  obtain ⟨y, cc, nL, ret⟩ := M'
  obtain rfl : ret = none := hret
  have hm : nL ≤ 40 := w3.2.2.2
  refine EV.ret_of (A := fun q : Nat => s.heap.size ≤ q) (st0 := as.reverse ++ .ref a :: rest) (va_runI (Ts := TB) (As := as) (b := a) (rest := rest) (g := F0 m pc ls (as.reverse ++ .ref a :: rest)) ⟨hC.1, hC.2.1, hC.2.2.2.1, hC.2.2.2.2.1, hts⟩ (ct H.size) (cwI (ws' := TB) n hts (TBw_good _ w3.1) rfl rfl rfl (hts _ w3.2.1) (hts _ w1) (hts _ w2) hnm w3.2.2.1 ⟨by show d + 1 ≤ 2048; omega, by show 8 + (nL + 11) + 64 * d ≤ 84000; omega⟩) (EV.pre (as := .ref a :: as) hX hR) rfl hn hl.1 rfl (by show 2 * 0 + _ ≤ 8; omega) dg ⟨by show cells + mc' ≤ 600000; omega, by show slots + ms' ≤ 7302250; omega⟩) hS (fun _ z => z) hD (fun v h' H1 locs1 hq hR1 hD1 hS1 => ?_)
  exact kk v h' hq _ _ _ _ _ _ _ _ _ _ _ _ hC hX hS1 hR1 hD1 hl (by omega) (by omega)
end ELC
theorem EL.end1 (dg : decode code pc = .ok (.ireturn, 1)) : EL G b L xs l pc lv [.int (zI 1)] h kc ks := by
  intro p e s m below meth c H locs cells slots ls hC hX hS hR hD hl h1 h2
  refine va_forget hS.2.2 ?_
  refine W.widen (k := 600000) (n := 7302250) (by omega) (by omega) ?_
  exact lw_ret hC.1 hC.2.1 hC.2.2.1 hC.2.2.2.2.2.2.2.2.1 dg
end ELR
