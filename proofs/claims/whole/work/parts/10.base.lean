/-! ===== words for the answers ===== -/
def bI (b : Bool) : Int := if b then 1 else 0
theorem bI_t {b : Bool} (h : b = true) : (1 : Int) = bI b := by rw [h]; rfl
theorem bI_f {b : Bool} (h : b = false) : (0 : Int) = bI b := by rw [h]; rfl
theorem bI_01 (b : Bool) : bI b = 0 ∨ bI b = 1 := by cases b <;> simp [bI]
theorem bI_in (b : Bool) : inR (bI b) := by cases b <;> exact ⟨by decide, by decide⟩
theorem bI_0 {b : Bool} (h : bI b = 0) : b = false := by cases b <;> simp [bI] at h ⊢
theorem bI_1 {b : Bool} (h : bI b ≠ 0) : b = true := by cases b <;> simp [bI] at h ⊢
theorem nar_bI (b : Bool) : narrow .boolean (.int (zI (bI b))) = .int (zI (bI b)) := by cases b <;> decide
/-- a number in its bounds -/
def rg (z a b : Int) : Bool := decide (a ≤ z ∧ z ≤ b)
theorem of_rg {z a b : Int} (h : rg z a b = true) : a ≤ z ∧ z ≤ b := of_decide_eq_true h
theorem of_nrg {z a b : Int} (h : rg z a b = false) : z < a ∨ b < z := by
  have := of_decide_eq_false h
  omega
theorem rg_t {z a b : Int} (h : a ≤ z ∧ z ≤ b) : rg z a b = true := decide_eq_true h
theorem rg_f {z a b : Int} (h : z < a ∨ b < z) : rg z a b = false := decide_eq_false (by omega)
abbrev RQ (h : Hp) (v : Int) : Option Value → Hp → Prop := fun o h' => o = some (.int (zI v)) ∧ h' = h
theorem rQ {h : Hp} {x v : Int} (e : x = v) : RQ h v (some (.int (zI x))) h := ⟨by rw [e], rfl⟩
section EVX
variable {G : GG} {l : Launch} {M : MD} {d : Nat} {Q : Option Value → Hp → Prop} {pc : Nat} {lv lv' : List (Option Value)} {st : List Value} {h : Hp} {kc ks : Nat}
theorem EV.top {x y : Int32} (e : x = y) (k : EV G l M d Q pc lv (.int y :: st) h kc ks) : EV G l M d Q pc lv (.int x :: st) h kc ks := e ▸ k
theorem hasL.drop {ls : Array Slot} {nL : Nat} (h : hasL ls nL lv) (i : Nat) : hasL ls nL (lv.set i none) := ⟨h.1, h.2.1, fun j v hj => by
  by_cases hij : i = j
  · subst hij
    rw [List.getElem?_set] at hj
    simp at hj
  · rw [List.getElem?_set_ne hij] at hj
    exact h.2.2 j v hj⟩
theorem EV.drop (i : Nat) (hl : lv.set i none = lv') (k : EV G l M d Q pc lv' st h kc ks) : EV G l M d Q pc lv st h kc ks := by
  intro p e s m args below meth c A mc ms H locs cells slots ls hC hS hR hD hls h1 h2
  exact k _ _ _ _ _ _ _ _ _ _ _ _ _ _ _ _ hC hS hR hD (hl ▸ hls.drop i) h1 h2
theorem EV.ifeqB {off : Int} {t : Nat} {b : Bool} (dg : decode M.2.1 pc = .ok (.ifCond .eq off, 3)) (ht : (pc : Int) + off = (t : Int)) (k1 : b = false → EV G l M d Q t lv st h kc ks) (k2 : b = true → EV G l M d Q (pc + 3) lv st h kc ks) : EV G l M d Q pc lv (.int (zI (bI b)) :: st) h kc ks :=
  EV.ifeq dg ht (bI_in b) (fun z => k1 (bI_0 z)) (fun z => k2 (bI_1 z))
theorem EV.ifneB {off : Int} {t : Nat} {b : Bool} (dg : decode M.2.1 pc = .ok (.ifCond .ne off, 3)) (ht : (pc : Int) + off = (t : Int)) (k1 : b = true → EV G l M d Q t lv st h kc ks) (k2 : b = false → EV G l M d Q (pc + 3) lv st h kc ks) : EV G l M d Q pc lv (.int (zI (bI b)) :: st) h kc ks :=
  EV.ifne dg ht (bI_in b) (fun z => k1 (bI_1 z)) (fun z => k2 (bI_0 z))
theorem EV.ifgeW {off : Int} {t : Nat} {x : Int32} (dg : decode M.2.1 pc = .ok (.ifCond .ge off, 3)) (ht : (pc : Int) + off = (t : Int)) (k1 : 0 ≤ x → EV G l M d Q t lv st h kc ks) (k2 : ¬ 0 ≤ x → EV G l M d Q (pc + 3) lv st h kc ks) : EV G l M d Q pc lv (.int x :: st) h kc ks :=
  EV.if2 (fun _ _ _ _ _ _ _ _ _ _ _ _ _ _ _ hx hb a b => lv_if_ge hx hb dg ht a b) k1 k2
theorem EV.ifeqW {off : Int} {t : Nat} {x : Int32} (dg : decode M.2.1 pc = .ok (.ifCond .eq off, 3)) (ht : (pc : Int) + off = (t : Int)) (k1 : x = 0 → EV G l M d Q t lv st h kc ks) (k2 : ¬ x = 0 → EV G l M d Q (pc + 3) lv st h kc ks) : EV G l M d Q pc lv (.int x :: st) h kc ks :=
  EV.if2 (fun _ _ _ _ _ _ _ _ _ _ _ _ _ _ _ hx hb a b => lv_if_eq hx hb dg ht a b) k1 k2
theorem EV.ifneW {off : Int} {t : Nat} {x : Int32} (dg : decode M.2.1 pc = .ok (.ifCond .ne off, 3)) (ht : (pc : Int) + off = (t : Int)) (k1 : ¬ x = 0 → EV G l M d Q t lv st h kc ks) (k2 : x = 0 → EV G l M d Q (pc + 3) lv st h kc ks) : EV G l M d Q pc lv (.int x :: st) h kc ks :=
  EV.if2 (P := ¬ x = 0) (fun _ _ _ _ _ _ _ _ _ _ _ _ _ _ _ hx hb a b => lv_if_ne hx hb dg ht a (fun z => b (fun y => y z))) k1 (fun z => k2 (Classical.not_not.mp z))
theorem EV.iaddW {x y : Int32} (dg : decode M.2.1 pc = .ok (.iadd, 1)) (k : EV G l M d Q (pc + 1) lv (.int (x + y) :: st) h kc ks) : EV G l M d Q pc lv (.int y :: .int x :: st) h kc ks :=
  EV.same (fun _ _ _ _ _ _ _ _ _ _ _ _ _ _ _ hx hb _ kk => lv_iadd hx hb dg kk) k
theorem EV.isubW {x y : Int32} (dg : decode M.2.1 pc = .ok (.isub, 1)) (k : EV G l M d Q (pc + 1) lv (.int (x - y) :: st) h kc ks) : EV G l M d Q pc lv (.int y :: .int x :: st) h kc ks :=
  EV.same (fun _ _ _ _ _ _ _ _ _ _ _ _ _ _ _ hx hb _ kk => lv_isub hx hb dg kk) k
end EVX
/-! a class with rows of its own in the table of natives (java/lang/Math): by the method's name -/
theorem Met.ofWF {l : Launch} {y : MethodName} {ws ws' : List Cond} {rm : Room} {Pc : Array Value → State → Prop} {Qc : Array Value → State → Outcome → State → Prop} {mc ms : Nat} {free : Addr → Prop} {cc : ByteArray} {maxL : Nat} {ret : Option FieldType}
    (hy : plainFor y = true) (hw : ws = Cond.code y cc maxL ret :: ws')
    (body : ∀ p e s m args below meth c s₁, BodyLoose p l y (headSpec ws rm) cc maxL ret e s m args below meth c s₁ → c.maxLocals = maxL → Pc args s →
      W p l e (headSpec ws rm).room s m args below meth c s.heap [] 0 0 (MQ below Qc args s mc ms free) (entryFrame m args maxL)) : Met l y ws rm Pc Qc mc ms free := by
  refine MetFree.of_bodySF (code := cc) (maxLocals := maxL) (ret := ret) hy ?_ ?_
  · intro args s m h hn
    obtain ⟨meth, c, h1, h2, h3, h4, h5, h6, -, -⟩ := Cond.code_spec hn (atoms_spec (ws := ws) h _ (by rw [hw]; exact List.mem_cons_self))
    exact ⟨meth, c, h1, h2, h3, h4, h5, h6⟩
  · intro p e s m args below meth c s₁ B hml hP _
    have hh0 : s₁.heap = s.heap := by rw [B.state]; rfl
    obtain ⟨t, a1, o, b1, b2, b3⟩ := body p e s m args below meth c s₁ B hml hP s₁ hh0 (Stand.of_body B)
    exact ⟨t, o, a1, b1, b2, ⟨b3.1, b3.2⟩⟩
theorem CT.ofF {G : GG} {l : Launch} {M : MD} {d mc ms : Nat} {as : List Value} {h : Hp} {Q : Option Value → Hp → Prop} (hy : plainFor M.1 = true) (hn : as.length ≤ M.2.2.1) (hcat : ∀ v ∈ as, v.category = 1)
    (k : EV G l M d Q 0 (as.map some ++ List.replicate (M.2.2.1 - as.length) none) [] h mc ms) : CT G l M d mc ms as h Q := by
  intro sz
  refine Met.ofWF (cc := M.2.1) (maxL := M.2.2.1) (ret := M.2.2.2) hy rfl ?_
  intro p e s m args below meth c s₁ B hml hv
  obtain ⟨rfl, hsz, hC, hR⟩ := hv
  have hts0 := atoms_spec (ws := TBw M) B.pre
  have hl := lv_entry as (n := M.2.2.1) (by rw [lgs_len as hcat]; exact hn)
  rw [lg_entry_eq]
  subst hsz
  refine k p e s m _ below meth c (hA h s.heap.size) mc ms s.heap [] 0 0 _ ⟨B.exec, B.bytes, hml, B.returns, findClass_of_methodNamed B.named, B.notSynchronized, fun w hw => hts0 w (List.mem_cons_of_mem _ hw), (name_of_methodNamed B.named B.method).1, hC, fun q hq => Or.inr hq⟩ va_S.rf hR (fun q hq => Or.inl hq) ⟨hl.1, hl.2.1, fun i v hi => ?_⟩ (by omega) (by omega)
  by_cases hia : i < as.length
  · rw [List.getElem?_append_left (by simpa using hia), List.getElem?_map] at hi
    cases hz : as[i]? with
    | none => rw [hz] at hi; simp at hi
    | some w =>
      rw [hz] at hi
      simp at hi
      subst hi
      have h1 := lva_mem as 0 i w hcat hz
      rw [Nat.zero_add] at h1
      exact ⟨hl.2.2 _ h1, hcat w (List.mem_of_getElem? hz)⟩
  · rw [List.getElem?_append_right (by simpa using hia)] at hi
    have := List.eq_of_mem_replicate (List.mem_of_getElem? hi)
    cases this
/-! bits of small sets -/
/-- the set of the p below n that have f -/
def orb (f : Nat → Bool) : Nat → Nat
  | 0 => 0
  | n + 1 => if f n then orb f n ||| 2 ^ n else orb f n
theorem orb_lt (f : Nat → Bool) : ∀ n, orb f n < 2 ^ n
  | 0 => by show 0 < 1; decide
  | n + 1 => by
    have ih := orb_lt f n
    have h2 : 2 ^ n < 2 ^ (n + 1) := Nat.pow_lt_pow_right (by decide) (by omega)
    unfold orb
    split
    · exact Nat.or_lt_two_pow (by omega) h2
    · omega
theorem orb_bit (f : Nat → Bool) : ∀ n i, (orb f n).testBit i = (decide (i < n) && f i)
  | 0, i => by simp [orb]
  | n + 1, i => by
    have ih := orb_bit f n i
    unfold orb
    by_cases hf : f n = true
    · rw [if_pos hf, Nat.testBit_or, ih, Nat.testBit_two_pow]
      by_cases hi : n = i
      · subst hi; simp [hf]
      · have e1 : decide (i < n + 1) = decide (i < n) := by
          by_cases h : i < n
          · simp [h, Nat.lt_succ_of_lt h]
          · have : ¬ i < n + 1 := by omega
            simp [h, this]
        simp [hi, e1]
    · rw [if_neg hf, ih]
      by_cases hi : n = i
      · subst hi; simp [hf]
      · have e1 : decide (i < n + 1) = decide (i < n) := by
          by_cases h : i < n
          · simp [h, Nat.lt_succ_of_lt h]
          · have : ¬ i < n + 1 := by omega
            simp [h, this]
        simp [e1]
theorem orb_s (f : Nat → Bool) (n : Nat) : orb f (n + 1) = if f n then orb f n ||| 2 ^ n else orb f n := rfl
theorem orb_cg {f g : Nat → Bool} : ∀ {n : Nat}, (∀ i, i < n → f i = g i) → orb f n = orb g n
  | 0, _ => rfl
  | n + 1, h => by
    unfold orb
    rw [orb_cg (fun i hi => h i (by omega)), h n (by omega)]
/-- how many i below n have f -/
def cnt (f : Nat → Bool) : Nat → Nat
  | 0 => 0
  | n + 1 => cnt f n + (if f n then 1 else 0)
theorem cnt_s (f : Nat → Bool) (n : Nat) : cnt f (n + 1) = cnt f n + (if f n then 1 else 0) := rfl
theorem cnt_le (f : Nat → Bool) : ∀ n, cnt f n ≤ n
  | 0 => Nat.le_refl _
  | n + 1 => by
    have := cnt_le f n
    unfold cnt
    split <;> omega
theorem cnt_cg {f g : Nat → Bool} : ∀ {n : Nat}, (∀ i, i < n → f i = g i) → cnt f n = cnt g n
  | 0, _ => rfl
  | n + 1, h => by
    unfold cnt
    rw [cnt_cg (fun i hi => h i (by omega)), h n (by omega)]
/-- all i below n have f -/
def alln (f : Nat → Bool) : Nat → Bool
  | 0 => true
  | n + 1 => alln f n && f n
theorem alln_iff {f : Nat → Bool} : ∀ {n : Nat}, alln f n = true ↔ ∀ i, i < n → f i = true
  | 0 => by simp [alln]
  | n + 1 => by
    unfold alln
    rw [Bool.and_eq_true, alln_iff]
    constructor
    · rintro ⟨h1, h2⟩ i hi
      by_cases h : i = n
      · rw [h]; exact h2
      · exact h1 i (by omega)
    · intro h
      exact ⟨fun i hi => h i (by omega), h n (by omega)⟩
theorem alln_f {f : Nat → Bool} {n i : Nat} (hi : i < n) (h : f i = false) : alln f n = false := by
  cases hz : alln f n with
  | false => rfl
  | true => rw [alln_iff.mp hz i hi] at h; cases h
/-- some i below n has f -/
def exn (f : Nat → Bool) (n : Nat) : Bool := !(alln (fun i => !(f i)) n)
theorem exn_t {f : Nat → Bool} {n i : Nat} (hi : i < n) (h : f i = true) : exn f n = true := by
  unfold exn
  rw [alln_f hi (by simp [h])]; rfl
theorem exn_f {f : Nat → Bool} {n : Nat} (h : ∀ i, i < n → f i = false) : exn f n = false := by
  unfold exn
  rw [alln_iff.mpr (fun i hi => by simp [h i hi])]; rfl
theorem exn_iff {f : Nat → Bool} {n : Nat} : exn f n = true ↔ ∃ i, i < n ∧ f i = true := by
  constructor
  · intro h
    cases hz : alln (fun i => !(f i)) n with
    | true => unfold exn at h; rw [hz] at h; cases h
    | false =>
      apply Classical.byContradiction
      intro hn
      have : alln (fun i => !(f i)) n = true := alln_iff.mpr (fun i hi => by
        cases hf : f i with
        | false => rfl
        | true => exact absurd ⟨i, hi, hf⟩ hn)
      rw [this] at hz; cases hz
  · rintro ⟨i, hi, h⟩; exact exn_t hi h
theorem tb_div (a p : Nat) : (a / 2 ^ p) &&& 1 = (if a.testBit p then 1 else 0) := by
  rw [Nat.and_one_is_mod, ← Nat.shiftRight_eq_div_pow]
  have := Nat.testBit_eq_decide_div_mod_eq (x := a) (i := p)
  rw [this, Nat.shiftRight_eq_div_pow]
  by_cases h : a / 2 ^ p % 2 = 1
  · simp [h]
  · have : a / 2 ^ p % 2 = 0 := by omega
    simp [this]
/-- set >> p & 1 -/
theorem zI_bit {a p : Nat} (hp : p < 31) (ha : a < 2147483648) : (zI (a : Int) >>> (zI (p : Int) &&& 31)) &&& zI 1 = zI (bI (a.testBit p)) := by
  rw [zI_shr hp ha, show zI 1 = zI ((1 : Nat) : Int) from rfl, zI_and, tb_div]
  cases a.testBit p <;> rfl
theorem zI_shl1 {p : Nat} (hp : p < 31) : zI 1 <<< (zI (p : Int) &&& 31) = zI ((2 ^ p : Nat) : Int) := by
  have h2 : 2 ^ p < 2147483648 := Nat.pow_lt_pow_right (n := 31) (by decide) hp
  have := zI_shl (a := 1) hp (by omega)
  rw [Nat.one_mul] at this
  exact this
