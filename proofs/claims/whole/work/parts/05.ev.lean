/-! ===== EV: the walk of a method over plain data ===== -/
def TB : List Cond := lw_tbl.filter goodWord
theorem TB_in {w : Cond} (h : w ∈ lw_tbl) (hg : goodWord w = true) : w ∈ TB := List.mem_filter.mpr ⟨h, hg⟩
theorem TB_good {w : Cond} (h : w ∈ TB) : (w.onTables && w.keeps) = true ∨ ∃ ty, w = .arrayClass ty := good_of_word (List.mem_filter.mp h).2
def NBt : List (String × Nat × MethodName × String) := [(RX6, 9, yX3_init, RX6), (RX6, 18, yX1_init, RX6), (RX6, 29, yX2_init, RX6), (RX1, 9, yX0_init, RX6), (RX1, 18, yX4_init, RX6), (RX1, 25, yX5_init, RX6), (RX0, 34, yX6_isOneOf, RX6), (RX0, 80, yX6_bornDay, RX6), (RX2, 63, yX6_isOneOf, RX6), (RX3, 19, yX6_isOneOf, RX6), (RX4, 35, yX6_isOneOf, RX6), (RX5, 28, yX6_isOneOf, RX6)]
/-- class numbers, slots; the classes of int[], boolean[], Land[] -/
abbrev GG : Type := va_G × ClassId × ClassId × ClassId
abbrev Hp : Type := Nat → Option va_E
abbrev MD : Type := MethodName × ByteArray × Nat × Option FieldType
def tysG (G : GG) : List (ClassId × FieldType) := [(G.2.1, .int), (G.2.2.1, .boolean), (G.2.2.2, .object RX1)]
def hset (h : Hp) (a : Nat) (e : va_E) : Hp := fun q => if q = a then some e else h q
theorem hset_s (h : Hp) (a : Nat) (e : va_E) : hset h a e a = some e := by simp [hset]
theorem hset_n (h : Hp) {a b : Nat} (e : va_E) (hb : b ≠ a) : hset h a e b = h b := by simp [hset, hb]
theorem hset_hset (h : Hp) (a : Nat) (e e' : va_E) : hset (hset h a e) a e' = hset h a e' := by
  funext q
  by_cases hq : q = a
  · subst hq; simp [hset]
  · simp [hset, hq]
theorem hset_self {h : Hp} {a : Nat} {e : va_E} (ha : h a = some e) : hset h a e = h := by
  funext q
  by_cases hq : q = a
  · subst hq; simp [hset, ha]
  · simp [hset, hq]
theorem hset_swap (h : Hp) {a b : Nat} (e e' : va_E) (hab : a ≠ b) : hset (hset h a e) b e' = hset (hset h b e') a e := by
  funext q
  by_cases h1 : q = a
  · subst h1; simp [hset, hab]
  · by_cases h2 : q = b
    · subst h2; simp [hset, h1]
    · simp [hset, h1, h2]
def dmH (h : Hp) : Nat → Prop := fun q => (h q).isSome = true
def Cx (G : GG) (U : State) : Prop := va_K G.1 vwCl (tysG G) U ∧ (∀ q ∈ NBt, va_Nw (.methodLinkNest q.1 q.2.1 q.2.2.1 q.2.2.2) U) ∧ va_AO RX1 U
theorem Cx.warm {G : GG} {s U : State} (hW : s.WarmedH U.vm) (h : Cx G s) : Cx G U := ⟨va_K.moved hW.alike h.1, fun q hq => va_Nw.warmM hW (h.2.1 q hq), va_AO.moved hW.alike h.2.2⟩
theorem Cx.call {G : GG} {U : State} {g : JFrame} {mk : MethodId} {a : Array Value} (h : Cx G U) : Cx G (U.calling g mk a) :=
  ⟨va_K.moved (u := U) (U := U.calling g mk a) (Vm.Alike.refl U.vm) h.1, fun q hq => va_Nw.same (u := U) (U := U.calling g mk a) rfl rfl (h.2.1 q hq), va_AO.moved (u := U) (U := U.calling g mk a) (Vm.Alike.refl U.vm) h.2.2⟩
/-- the heap holds the cells of h -/
def Rl (G : GG) (h : Hp) (H : Heap) : Prop := ∃ ws : va_W, va_P G.1 vwCl ws H ∧ va_D (dmH h) ws ∧ ∀ (a : Nat) (e : va_E), h a = some e → ∃ k : Nat, ws[k]? = some (a, e)
theorem Rl.set {G : GG} {h : Hp} {H1 : Heap} {ws : va_W} {k a : Nat} {e0 e : va_E} (hD : va_D (dmH h) ws) (hc : ∀ (a : Nat) (e : va_E), h a = some e → ∃ k : Nat, ws[k]? = some (a, e)) (hk : ws[k]? = some (a, e0)) (hP : va_P G.1 vwCl (ws.set k (a, e)) H1) : Rl G (hset h a e) H1 := by
  have hlt : k < ws.length := (List.getElem?_eq_some_iff.mp hk).1
  refine ⟨_, hP, (hD.set hk).weaken (fun j q _ hq => ?_), fun b e' hb => ?_⟩
  · show (hset h a e q.1).isSome = true
    unfold hset
    by_cases hqa : q.1 = a
    · rw [if_pos hqa]; rfl
    · rw [if_neg hqa]; exact hq
  · unfold hset at hb
    by_cases hba : b = a
    · rw [if_pos hba] at hb
      cases hb
      subst hba
      exact ⟨k, List.getElem?_set_self hlt⟩
    · rw [if_neg hba] at hb
      obtain ⟨j, hj⟩ := hc b e' hb
      have hjk : k ≠ j := fun x => by
        subst x
        rw [hk] at hj
        cases hj
        exact hba rfl
      exact ⟨j, by rw [List.getElem?_set_ne hjk]; exact hj⟩
theorem Rl.push {G : GG} {h : Hp} {H1 : Heap} {A : Nat → Prop} {ws : va_W} {q : Nat} {e : va_E} (hD : va_D (dmH h) ws) (hc : ∀ (a : Nat) (e : va_E), h a = some e → ∃ k : Nat, ws[k]? = some (a, e)) (hP : va_P G.1 vwCl (ws ++ [(q, e)]) H1) (hD2 : va_D A (ws ++ [(q, e)])) : h q = none ∧ A q ∧ Rl G (hset h q e) H1 := by
  have hlast : (ws ++ [(q, e)])[ws.length]? = some (q, e) := by simp
  have hnone : h q = none := by
    cases hq : h q with
    | none => rfl
    | some e' =>
      obtain ⟨k, hk⟩ := hc q e' hq
      have hlt : k < ws.length := (List.getElem?_eq_some_iff.mp hk).1
      have h1 : (ws ++ [(q, e)])[k]? = some (q, e') := by rw [List.getElem?_append_left hlt]; exact hk
      have := hD2.1 k ws.length _ _ h1 hlast rfl
      omega
  refine ⟨hnone, hD2.2 _ _ hlast, _, hP, ⟨hD2.1, fun k x hx => ?_⟩, fun b e' hb => ?_⟩
  · show (hset h q e x.1).isSome = true
    unfold hset
    by_cases hxq : x.1 = q
    · rw [if_pos hxq]; rfl
    · rw [if_neg hxq]
      by_cases hl : k < ws.length
      · rw [List.getElem?_append_left hl] at hx
        exact hD.2 k x hx
      · rw [List.getElem?_append_right (by omega)] at hx
        have hz : k - ws.length < 1 := (List.getElem?_eq_some_iff.mp hx).1
        rw [show k - ws.length = 0 by omega] at hx
        cases hx
        exact absurd rfl hxq
  · unfold hset at hb
    by_cases hbq : b = q
    · rw [if_pos hbq] at hb
      cases hb
      subst hbq
      exact ⟨_, hlast⟩
    · rw [if_neg hbq] at hb
      obtain ⟨j, hj⟩ := hc b e' hb
      exact ⟨j, by rw [List.getElem?_append_left (List.getElem?_eq_some_iff.mp hj).1]; exact hj⟩
/-- the locals: a list of options, none is unknown; longs are not held there -/
def hasL (ls : Array Slot) (nL : Nat) (lv : List (Option Value)) : Prop := ls.size = nL ∧ lv_wf ls ∧ ∀ (i : Nat) (v : Value), lv[i]? = some (some v) → ls[i]? = some (.val v) ∧ v.category = 1
def lvl (lv : List (Option Value)) : List (Nat × Value) := (List.range lv.length).filterMap (fun j => (lv[j]?.join).map (fun v => (j, v)))
theorem lvl_mem {lv : List (Option Value)} {i : Nat} {v : Value} : (i, v) ∈ lvl lv ↔ lv[i]? = some (some v) := by
  unfold lvl
  rw [List.mem_filterMap]
  constructor
  · rintro ⟨j, -, hj⟩
    cases hz : lv[j]? with
    | none => rw [hz] at hj; simp at hj
    | some o =>
      rw [hz] at hj
      cases o with
      | none => simp at hj
      | some w =>
        simp at hj
        obtain ⟨rfl, rfl⟩ := hj
        exact hz
  · intro h
    refine ⟨i, List.mem_range.mpr (List.getElem?_eq_some_iff.mp h).1, ?_⟩
    rw [h]; rfl
theorem hasL.has {ls : Array Slot} {nL : Nat} {lv : List (Option Value)} (h : hasL ls nL lv) : lv_has ls nL (lvl lv) := ⟨h.1, h.2.1, fun q hq => (h.2.2 q.1 q.2 (lvl_mem.mp hq)).1⟩
theorem hasL.at {ls : Array Slot} {nL : Nat} {lv : List (Option Value)} (h : hasL ls nL lv) {i : Nat} {v : Value} (hi : lv[i]? = some (some v)) : ls[i]? = some (.val v) := (h.2.2 i v hi).1
theorem hasL.lt {ls : Array Slot} {nL : Nat} {lv : List (Option Value)} (h : hasL ls nL lv) {i : Nat} {v : Value} (hi : lv[i]? = some (some v)) : i < nL := by
  have := lv_lt (h.at hi)
  rw [← h.1]; exact this
/-- what a store leaves -/
theorem hasL.set {ls ls' : Array Slot} {nL : Nat} {lv : List (Option Value)} {i : Nat} {v : Value} (h : hasL ls nL lv) (hv : v.category = 1) (h' : lv_has ls' nL ((i, v) :: (lvl lv).filter (fun q => !(q.1 == i) && !(q.1 + 1 == i && q.2.category == 2)))) : hasL ls' nL (lv.set i (some v)) := by
  refine ⟨h'.1, h'.2.1, fun j w hj => ?_⟩
  by_cases hij : i = j
  · subst hij
    have hlt : i < lv.length := by
      have := (List.getElem?_eq_some_iff.mp hj).1
      simpa using this
    rw [List.getElem?_set_self hlt] at hj
    cases hj
    exact ⟨h'.2.2 (i, v) List.mem_cons_self, hv⟩
  · rw [List.getElem?_set_ne hij] at hj
    have hc := (h.2.2 j w hj).2
    refine ⟨h'.2.2 (j, w) (List.mem_cons_of_mem _ (List.mem_filter.mpr ⟨lvl_mem.mpr hj, ?_⟩)), hc⟩
    have h1 : (j == i) = false := by simp [Ne.symm hij]
    have h2 : (w.category == 2) = false := by simp [hc]
    show (!(j == i) && !(j + 1 == i && w.category == 2)) = true
    rw [h1, h2]; simp
def MC (G : GG) (M : MD) (A : Nat → Prop) (p : Program) (s : State) (m : MethodId) (args : Array Value) (meth : Method) (c : Code) : Prop :=
  p.tables.exec = Jvm.exec ∧ c.code = M.2.1 ∧ c.maxLocals = M.2.2.1 ∧ meth.sig.returnType = M.2.2.2 ∧ s.vm.findClass M.1.cls = some m.cls ∧ meth.locks = false ∧ (∀ w ∈ TB, w.before args s = true) ∧ meth.name = M.1.name ∧ Cx G s ∧ ∀ q : Nat, s.heap.size ≤ q → A q
/-- a method's end: its answer and the cells behind it -/
def EQ (G : GG) (Q : Option Value → Hp → Prop) (A : Nat → Prop) : Array Value → State → Outcome → State → Prop := fun _ st o t => (∃ (v : Option Value) (h' : Hp), o = .returned v ∧ Q v h' ∧ Rl G h' t.heap ∧ ∀ q : Nat, (h' q).isSome = true → A q) ∧ va_F A st t
def rmD (d mc ms : Nat) : Room := { frames := d, cells := mc, slots := ms, locals := 64 * d }
def EV (G : GG) (l : Launch) (M : MD) (d : Nat) (Q : Option Value → Hp → Prop) (pc : Nat) (lv : List (Option Value)) (st : List Value) (h : Hp) (kc ks : Nat) : Prop :=
  ∀ (p : Program) (e : Env) (s : State) (m : MethodId) (args : Array Value) (below : List Frame) (meth : Method) (c : Code) (A : Nat → Prop) (mc ms : Nat) (H : Heap) (locs : List Loc) (cells slots : Nat) (ls : Array Slot),
    MC G M A p s m args meth c → va_S A s.heap H locs → Rl G h H → (∀ q : Nat, (h q).isSome = true → A q) → hasL ls M.2.2.1 lv → cells + kc ≤ mc → slots + ks ≤ ms →
    W p l e (rmD d mc ms) s m args below meth c H locs cells slots (MQ below (EQ G Q A) args s mc ms A) (F0 m pc ls st)
def hA (h : Hp) (sz : Nat) : Nat → Prop := fun q => (h q).isSome = true ∨ sz ≤ q
def TBw (M : MD) : List Cond := Cond.code M.1 M.2.1 M.2.2.1 M.2.2.2 :: TB
/-- a method's contract, on the cells h -/
def CT (G : GG) (l : Launch) (M : MD) (d mc ms : Nat) (as : List Value) (h : Hp) (Q : Option Value → Hp → Prop) : Prop :=
  ∀ sz : Nat, Met l M.1 (TBw M) (rmD d mc ms) (va_Pc as (fun U => U.heap.size = sz ∧ Cx G U ∧ Rl G h U.heap)) (EQ G Q (hA h sz)) mc ms (hA h sz)
theorem lva_mem : ∀ (as : List Value) (k i : Nat) (v : Value), (∀ v ∈ as, v.category = 1) → as[i]? = some v → (k + i, v) ∈ lv_args k as
  | [], k, i, v, _, h => by simp at h
  | a :: as, k, i, v, hc, h => by
    have ha : a.category = 1 := hc a List.mem_cons_self
    cases i with
    | zero =>
      simp at h
      subst h
      exact List.mem_cons_self
    | succ i =>
      simp at h
      have := lva_mem as (k + 1) i v (fun w hw => hc w (List.mem_cons_of_mem _ hw)) h
      unfold lv_args
      rw [if_neg (by omega)]
      refine List.mem_cons_of_mem _ ?_
      rw [show k + (i + 1) = k + 1 + i by omega]
      exact this
theorem lgs_len : ∀ (as : List Value), (∀ v ∈ as, v.category = 1) → (lg_sl as).length = as.length
  | [], _ => rfl
  | a :: as, hc => by
    have ha : a.category = 1 := hc a List.mem_cons_self
    have ih := lgs_len as (fun w hw => hc w (List.mem_cons_of_mem _ hw))
    unfold lg_sl at ih ⊢
    rw [List.flatMap_cons, List.length_append, ih, if_neg (by omega)]
    simp only [List.length_cons, List.length_nil]; omega
theorem CT.of {G : GG} {l : Launch} {M : MD} {d mc ms : Nat} {as : List Value} {h : Hp} {Q : Option Value → Hp → Prop} (hy : plainName M.1.cls = true) (hn : as.length ≤ M.2.2.1) (hcat : ∀ v ∈ as, v.category = 1)
    (k : EV G l M d Q 0 (as.map some ++ List.replicate (M.2.2.1 - as.length) none) [] h mc ms) : CT G l M d mc ms as h Q := by
  intro sz
  refine Met.ofW (cc := M.2.1) (maxL := M.2.2.1) (ret := M.2.2.2) hy rfl ?_
  intro p e s m args below meth c s₁ B hml hv
  obtain ⟨rfl, hsz, hC, hR⟩ := hv
  have hts0 := atoms_spec (ws := TBw M) B.pre
  have hl := lv_entry as (n := M.2.2.1) (by rw [lgs_len as hcat]; exact hn)
  rw [lg_entry_eq]
  subst hsz
  refine k p e s m _ below meth c (hA h s.heap.size) mc ms s.heap [] 0 0 _ ⟨B.exec, B.bytes, hml, B.returns, findClass_of_methodNamed B.named, B.notSynchronized, fun w hw => hts0 w (List.mem_cons_of_mem _ hw), (name_of_methodNamed B.named B.method).1, hC, fun q hq => Or.inr hq⟩ va_S.rf hR (fun q hq => Or.inl hq) ⟨hl.1, hl.2.1, fun i v hi => ?_⟩ (by omega) (by omega)
  by_cases hia : i < as.length
  · rw [List.getElem?_append_left (by simpa using hia), List.getElem?_map] at hi
    cases hz : as[i]? with
    | none => rw [hz] at hi; simp at hi
    | some w =>
      rw [hz] at hi
      simp at hi
      subst hi
      have h1 := lva_mem as 0 i w hcat hz
      rw [Nat.zero_add] at h1
      exact ⟨hl.2.2 _ h1, hcat w (List.mem_of_getElem? hz)⟩
  · rw [List.getElem?_append_right (by simpa using hia)] at hi
    have := List.eq_of_mem_replicate (List.mem_of_getElem? hi)
    cases this
