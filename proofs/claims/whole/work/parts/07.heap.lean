/-! ===== rows of EV: the heap ===== -/
/-- a field by its link: class number ci of vwCl, place k -/
def FL (own : String) (index ci k : Nat) : Prop := ∃ (C : String) (T : u_T) (N : Nat), vwCl[ci]? = some (C, T, N) ∧ k < N ∧ (∀ w ∈ u_ws C T N, w ∈ TB) ∧ Cond.fieldLink own index (T k).1 (T k).2.1 (T k).2.2.1 ∈ TB
def FP (own : String) (index ci k : Nat) (ty : FieldType) : Prop := ∃ (C : String) (T : u_T) (N : Nat) (tyf : Nat → FieldType), vwCl[ci]? = some (C, T, N) ∧ k < N ∧ (∀ w ∈ u_ws C T N, w ∈ TB) ∧ Cond.fieldLink own index (T k).1 (T k).2.1 (T k).2.2.1 ∈ TB ∧
  (∀ j, j < N → parseFieldDescriptor (T j).2.2.1 = some (tyf j)) ∧ (∀ a, a < N → ∀ b, b < N → a ≠ b → (T a).2.1 ≠ (T b).2.1) ∧ (T k).2.2.2 = false ∧ parseFieldDescriptor (T k).2.2.1 = some ty
def FPF (own : String) (index ci k : Nat) (ty : FieldType) : Prop := ∃ (C : String) (T : u_T) (N : Nat) (tyf : Nat → FieldType), vwCl[ci]? = some (C, T, N) ∧ k < N ∧ (∀ w ∈ u_ws C T N, w ∈ TB) ∧ Cond.fieldLink own index (T k).1 (T k).2.1 (T k).2.2.1 ∈ TB ∧
  (∀ j, j < N → parseFieldDescriptor (T j).2.2.1 = some (tyf j)) ∧ (∀ a, a < N → ∀ b, b < N → a ≠ b → (T a).2.1 ≠ (T b).2.1) ∧ (T k).2.2.2 = true ∧ (T k).1 = own ∧ parseFieldDescriptor (T k).2.2.1 = some ty
def FN (own : String) (index ci N : Nat) (tyf : Nat → FieldType) : Prop := ∃ (C : String) (T : u_T), vwCl[ci]? = some (C, T, N) ∧ (∀ w ∈ u_ws C T N, w ∈ TB) ∧ (∀ j, j < N → parseFieldDescriptor (T j).2.2.1 = some (tyf j)) ∧ Cond.classLink own index C ∈ TB ∧ Cond.instantiable C N ∈ TB ∧ Cond.initialized C ∈ TB
/-- cells: an array of ints, of booleans, of Lands; an object -/
def arI (G : GG) (n : Nat) (g : Nat → Int) : va_E := .inl (G.2.1, n, .inl (fun j => zI (g j)))
def arZ (G : GG) (n : Nat) (g : Nat → Int) : va_E := .inl (G.2.2.1, n, .inl (fun j => zI (g j)))
def arL (G : GG) (n : Nat) (f : Nat → Option Nat) : va_E := .inl (G.2.2.2, n, .inr (.inr (.inr (.inr f))))
def obj (ci : Nat) (fs : List Value) : va_E := .inr (ci, fs)
def uI (g : Nat → Int) (k : Nat) (v : Int) : Nat → Int := fun j => if j = k then v else g j
theorem uI_s (g : Nat → Int) (k : Nat) (v : Int) : uI g k v k = v := by simp [uI]
theorem uI_n (g : Nat → Int) {k j : Nat} (v : Int) (hj : j ≠ k) : uI g k v j = g j := by simp [uI, hj]
theorem upd_zI (g : Nat → Int) (k : Nat) (v : Int) : upd (fun j => zI (g j)) k (zI v) = fun j => zI (uI g k v j) := by
  funext j
  unfold upd uI
  by_cases hj : j = k
  · rw [if_pos hj, if_pos hj]
  · rw [if_neg hj, if_neg hj]
section EVH
variable {G : GG} {l : Launch} {M : MD} {d : Nat} {Q : Option Value → Hp → Prop} {pc : Nat} {lv : List (Option Value)} {st : List Value} {h : Hp} {kc ks : Nat} {a : Nat}
theorem EV.getf {index ci k : Nat} {fs : List Value} {v : Value} (fl : FL M.1.cls index ci k) (dg : decode M.2.1 pc = .ok (.getfield index, 3)) (ha : h a = some (obj ci fs)) (hv : fs[k]? = some v) (kk : EV G l M d Q (pc + 3) lv (v :: st) h kc ks) : EV G l M d Q pc lv (.ref a :: st) h kc ks := by
  intro p e s m args below meth c A mc ms H locs cells slots ls hC hS hR hD hl h1 h2
  obtain ⟨C, T, N, hc, hk, hin, hlk⟩ := fl
  obtain ⟨ws, hP, hDw, hcm⟩ := hR
  obtain ⟨q0, he⟩ := hcm a _ ha
  exact va_get (Ts := TB) hC.1 hC.2.1 hC.2.2.2.2.2.2.1 hin hC.2.2.2.2.1 hC.2.2.2.2.2.2.2.2.1.1 hP q0 he hc k hk (hC.2.2.2.2.2.2.1 _ hlk) (fun _ x => x) hv dg (kk _ _ _ _ _ _ _ _ _ _ _ _ _ _ _ _ hC hS ⟨ws, hP, hDw, hcm⟩ hD hl h1 h2)
theorem EV.putf {index ci k : Nat} {fs fs' : List Value} {v : Value} {ty : FieldType} (fl : FP M.1.cls index ci k ty) (dg : decode M.2.1 pc = .ok (.putfield index, 3)) (ha : h a = some (obj ci fs)) (hkl : k < fs.length) (hn : narrow ty v = v) (hf : fits ty v = true) (hfs : fs.set k v = fs') (kk : EV G l M d Q (pc + 3) lv st (hset h a (obj ci fs')) kc ks) : EV G l M d Q pc lv (v :: .ref a :: st) h kc ks := by
  intro p e s m args below meth c A mc ms H locs cells slots ls hC hS hR hD hl h1 h2
  obtain ⟨C, T, N, tyf, hc, hk, hin, hlk, hty, hnm, hfin, hd⟩ := fl
  obtain ⟨ws, hP, hDw, hcm⟩ := hR
  obtain ⟨q0, he⟩ := hcm a _ ha
  subst hfs
  refine va_put (Ts := TB) hC.1 hC.2.1 hC.2.2.2.2.2.2.1 hin tyf hty hnm hC.2.2.2.2.1 hC.2.2.2.2.2.2.2.2.1.1 hP (hDw.weaken fun _ q _ x => hD q.1 x) hS q0 he hc k hk (hC.2.2.2.2.2.2.1 _ hlk) (fun _ x => x) hfin hd hn hf hkl dg (fun H1 locs1 hP1 hD1 hS1 => ?_)
  exact kk _ _ _ _ _ _ _ _ _ _ _ _ _ _ _ _ hC hS1 (Rl.set hDw hcm he hP1) (fun q hq => by
    unfold hset at hq
    by_cases hqa : q = a
    · rw [hqa]; exact hD a (by rw [ha]; rfl)
    · rw [if_neg hqa] at hq; exact hD q hq) hl h1 h2
theorem EV.putF {index ci k : Nat} {fs fs' : List Value} {v : Value} {ty : FieldType} (fl : FPF M.1.cls index ci k ty) (hnm0 : M.1.name = "<init>") (dg : decode M.2.1 pc = .ok (.putfield index, 3)) (ha : h a = some (obj ci fs)) (hkl : k < fs.length) (hn : narrow ty v = v) (hf : fits ty v = true) (hfs : fs.set k v = fs') (kk : EV G l M d Q (pc + 3) lv st (hset h a (obj ci fs')) kc ks) : EV G l M d Q pc lv (v :: .ref a :: st) h kc ks := by
  intro p e s m args below meth c A mc ms H locs cells slots ls hC hS hR hD hl h1 h2
  obtain ⟨C, T, N, tyf, hc, hk, hin, hlk, hty, hnm, hfin, hown, hd⟩ := fl
  obtain ⟨ws, hP, hDw, hcm⟩ := hR
  obtain ⟨q0, he⟩ := hcm a _ ha
  subst hfs
  refine va_putF (Ts := TB) hC.1 hC.2.1 hC.2.2.2.2.2.2.1 hin tyf hty hnm hC.2.2.2.2.1 hC.2.2.2.2.2.2.2.2.1.1 hP (hDw.weaken fun _ q _ x => hD q.1 x) hS q0 he hc k hk (hC.2.2.2.2.2.2.1 _ hlk) (fun _ x => x) hfin (hC.2.2.2.2.2.2.2.1.trans hnm0) hown hd hn hf hkl dg (fun H1 locs1 hP1 hD1 hS1 => ?_)
  exact kk _ _ _ _ _ _ _ _ _ _ _ _ _ _ _ _ hC hS1 (Rl.set hDw hcm he hP1) (fun q hq => by
    unfold hset at hq
    by_cases hqa : q = a
    · rw [hqa]; exact hD a (by rw [ha]; rfl)
    · rw [if_neg hqa] at hq; exact hD q hq) hl h1 h2
theorem EV.iald {n : Nat} {g : Nat → Int} {i : Int} (dg : decode M.2.1 pc = .ok (.iaload, 1)) (ha : h a = some (arI G n g)) (j : Nat) (hj : i = (j : Int)) (hn : j < n ∧ n < 2147483648) (kk : EV G l M d Q (pc + 1) lv (.int (zI (g j)) :: st) h kc ks) : EV G l M d Q pc lv (.int (zI i) :: .ref a :: st) h kc ks := by
  intro p e s m args below meth c A mc ms H locs cells slots ls hC hS hR hD hl h1 h2
  obtain ⟨ws, hP, hDw, hcm⟩ := hR
  obtain ⟨q0, he⟩ := hcm a _ ha
  subst hj
  refine va_iald hC.1 hC.2.1 hC.2.2.2.2.2.2.2.2.1.1 hP q0 0 he rfl (zI_in hn.1 hn.2) dg ?_
  rw [zI_clampN (by omega)]
  exact kk _ _ _ _ _ _ _ _ _ _ _ _ _ _ _ _ hC hS ⟨ws, hP, hDw, hcm⟩ hD hl h1 h2
theorem EV.zald {n : Nat} {g : Nat → Int} {i : Int} (dg : decode M.2.1 pc = .ok (.baload, 1)) (ha : h a = some (arZ G n g)) (j : Nat) (hj : i = (j : Int)) (hn : j < n ∧ n < 2147483648) (kk : EV G l M d Q (pc + 1) lv (.int (zI (g j)) :: st) h kc ks) : EV G l M d Q pc lv (.int (zI i) :: .ref a :: st) h kc ks := by
  intro p e s m args below meth c A mc ms H locs cells slots ls hC hS hR hD hl h1 h2
  obtain ⟨ws, hP, hDw, hcm⟩ := hR
  obtain ⟨q0, he⟩ := hcm a _ ha
  subst hj
  refine va_zald hC.1 hC.2.1 hC.2.2.2.2.2.2.2.2.1.1 hP q0 1 he rfl (zI_in hn.1 hn.2) dg ?_
  rw [zI_clampN (by omega)]
  exact kk _ _ _ _ _ _ _ _ _ _ _ _ _ _ _ _ hC hS ⟨ws, hP, hDw, hcm⟩ hD hl h1 h2
theorem EV.aald {n : Nat} {f : Nat → Option Nat} {i : Int} (dg : decode M.2.1 pc = .ok (.aaload, 1)) (ha : h a = some (arL G n f)) (j : Nat) (hj : i = (j : Int)) (hn : j < n ∧ n < 2147483648) (kk : EV G l M d Q (pc + 1) lv (va_rf (f j) :: st) h kc ks) : EV G l M d Q pc lv (.int (zI i) :: .ref a :: st) h kc ks := by
  intro p e s m args below meth c A mc ms H locs cells slots ls hC hS hR hD hl h1 h2
  obtain ⟨ws, hP, hDw, hcm⟩ := hR
  obtain ⟨q0, he⟩ := hcm a _ ha
  subst hj
  refine va_aldq (C := RX1) hC.1 hC.2.1 hC.2.2.2.2.2.2.2.2.1.1 hP q0 2 he rfl (zI_in hn.1 hn.2) dg ?_
  rw [zI_clampN (by omega)]
  exact kk _ _ _ _ _ _ _ _ _ _ _ _ _ _ _ _ hC hS ⟨ws, hP, hDw, hcm⟩ hD hl h1 h2
theorem hD_set {A : Nat → Prop} {e0 e : va_E} (ha : h a = some e0) (hD : ∀ q : Nat, (h q).isSome = true → A q) : ∀ q : Nat, (hset h a e q).isSome = true → A q := fun q hq => by
  unfold hset at hq
  by_cases hqa : q = a
  · rw [hqa]; exact hD a (by rw [ha]; rfl)
  · rw [if_neg hqa] at hq; exact hD q hq
theorem EV.iast {n : Nat} {g : Nat → Int} {i v : Int} (dg : decode M.2.1 pc = .ok (.iastore, 1)) (ha : h a = some (arI G n g)) (j : Nat) (hj : i = (j : Int)) (hn : j < n ∧ n < 2147483648) (kk : EV G l M d Q (pc + 1) lv st (hset h a (arI G n (uI g j v))) kc ks) : EV G l M d Q pc lv (.int (zI v) :: .int (zI i) :: .ref a :: st) h kc ks := by
  intro p e s m args below meth c A mc ms H locs cells slots ls hC hS hR hD hl h1 h2
  obtain ⟨ws, hP, hDw, hcm⟩ := hR
  obtain ⟨q0, he⟩ := hcm a _ ha
  subst hj
  refine va_iast hC.1 hC.2.1 hC.2.2.2.2.2.2.2.2.1.1 hP (hDw.weaken fun _ q _ x => hD q.1 x) hS q0 0 he rfl (zI_in hn.1 hn.2) dg (fun H1 locs1 hP1 hD1 hS1 => ?_)
  rw [zI_clampN (by omega), upd_zI] at hP1
  exact kk _ _ _ _ _ _ _ _ _ _ _ _ _ _ _ _ hC hS1 (Rl.set hDw hcm he hP1) (hD_set ha hD) hl h1 h2
theorem EV.zast {n : Nat} {g : Nat → Int} {i v : Int} (dg : decode M.2.1 pc = .ok (.bastore, 1)) (ha : h a = some (arZ G n g)) (hv : vp_nar .boolean (zI v) = zI v) (j : Nat) (hj : i = (j : Int)) (hn : j < n ∧ n < 2147483648) (kk : EV G l M d Q (pc + 1) lv st (hset h a (arZ G n (uI g j v))) kc ks) : EV G l M d Q pc lv (.int (zI v) :: .int (zI i) :: .ref a :: st) h kc ks := by
  intro p e s m args below meth c A mc ms H locs cells slots ls hC hS hR hD hl h1 h2
  obtain ⟨ws, hP, hDw, hcm⟩ := hR
  obtain ⟨q0, he⟩ := hcm a _ ha
  subst hj
  refine va_zast hC.1 hC.2.1 hC.2.2.2.2.2.2.2.2.1.1 hP (hDw.weaken fun _ q _ x => hD q.1 x) hS q0 1 he rfl (zI_in hn.1 hn.2) dg (fun H1 locs1 hP1 hD1 hS1 => ?_)
  rw [hv, zI_clampN (by omega), upd_zI] at hP1
  exact kk _ _ _ _ _ _ _ _ _ _ _ _ _ _ _ _ hC hS1 (Rl.set hDw hcm he hP1) (hD_set ha hD) hl h1 h2
theorem EV.aast {n v : Nat} {f : Nat → Option Nat} {i : Int} {fs : List Value} (dg : decode M.2.1 pc = .ok (.aastore, 1)) (ha : h a = some (arL G n f)) (hv : h v = some (obj 1 fs)) (j : Nat) (hj : i = (j : Int)) (hn : j < n ∧ n < 2147483648) (kk : EV G l M d Q (pc + 1) lv st (hset h a (arL G n (va_up f j (some v)))) kc ks) : EV G l M d Q pc lv (.ref v :: .int (zI i) :: .ref a :: st) h kc ks := by
  intro p e s m args below meth c A mc ms H locs cells slots ls hC hS hR hD hl h1 h2
  obtain ⟨ws, hP, hDw, hcm⟩ := hR
  obtain ⟨q0, he⟩ := hcm a _ ha
  obtain ⟨q1, he1⟩ := hcm v _ hv
  subst hj
  refine va_astq (r := (RX1, TX1, 3)) hC.1 hC.2.1 hC.2.2.2.2.2.2.2.2.1.1 hP (hDw.weaken fun _ q _ x => hD q.1 x) hS q0 2 q1 1 he rfl he1 rfl (zI_in hn.1 hn.2) dg (fun H1 locs1 hP1 hD1 hS1 => ?_)
  rw [zI_clampN (by omega)] at hP1
  exact kk _ _ _ _ _ _ _ _ _ _ _ _ _ _ _ _ hC hS1 (Rl.set hDw hcm he hP1) (hD_set ha hD) hl h1 h2
theorem hD_new {A : Nat → Prop} {q : Nat} {e : va_E} (hq : A q) (hD : ∀ q : Nat, (h q).isSome = true → A q) : ∀ x : Nat, (hset h q e x).isSome = true → A x := fun x hx => by
  unfold hset at hx
  by_cases hqa : x = q
  · rw [hqa]; exact hq
  · rw [if_neg hqa] at hx; exact hD x hx
theorem Cx.arr {G : GG} {s : State} {cA : ClassId} {ty : FieldType} {t : Nat} (hC : Cx G s) (ht : (tysG G)[t]? = some (cA, ty)) {c2 : ClassId} (hK2 : va_K G.1 vwCl (tysG G ++ [(c2, ty)]) s) : c2 = cA := by
  have h1 := (hC.1.2 t _ ht).2
  have h2 := (hK2.2 (tysG G).length (c2, ty) (by simp)).2
  cases ty with
  | object C =>
    obtain ⟨_, _, _, _, _, e1⟩ := h1
    obtain ⟨_, _, _, _, _, e2⟩ := h2
    exact Option.some.inj (e2.symm.trans e1)
  | _ => exact Option.some.inj (Eq.trans (Eq.symm h2) h1)
theorem EV.newI {n : Int} {N : Nat} (hw : Cond.arrayClass .int ∈ TB) (dg : decode M.2.1 pc = .ok (.newarray .int, 2)) (hj : n = (N : Int)) (hN : N < 1000) (hc1 : 1 ≤ kc) (hc2 : N ≤ ks) (kk : ∀ q : Nat, h q = none → EV G l M d Q (pc + 2) lv (.ref q :: st) (hset h q (arI G N (fun _ => 0))) (kc - 1) (ks - N)) : EV G l M d Q pc lv (.int (zI n) :: st) h kc ks := by
  intro p e s m args below meth c A mc ms H locs cells slots ls hC hS hR hD hl h1 h2
  obtain ⟨ws, hP, hDw, hcm⟩ := hR
  subst hj
  refine va_newa (atype := .int) (ty := .int) (a0 := (N, .inl (fun _ => (0 : Int32)))) (N' := N) hC.1 hC.2.1 (hC.2.2.2.2.2.2.1 _ hw) rfl hC.2.2.2.2.2.2.2.2.1.1 hP (hDw.weaken fun _ q _ x => hD q.1 x) hS hC.2.2.2.2.2.2.2.2.2 (fun cA => rfl) (by rw [zI_lt0 ⟨by omega, by omega⟩]; omega) (zI_clampN (by omega)) (by show N * 4 ≤ _; omega) (by show cells + 1 ≤ mc; omega) (by show slots + N ≤ ms; omega) dg (fun q cA H1 hK1 hP1 hD1 hS1 => ?_)
  have hcA : cA = G.2.1 := Cx.arr (t := 0) hC.2.2.2.2.2.2.2.2.1 rfl hK1
  subst hcA
  obtain ⟨z1, z2, z3⟩ := Rl.push hDw hcm hP1 hD1
  exact kk q z1 _ _ _ _ _ _ _ _ _ _ _ _ _ _ _ _ hC hS1 z3 (hD_new z2 hD) hl (by omega) (by omega)
theorem EV.newZ {n : Int} {N : Nat} (hw : Cond.arrayClass .boolean ∈ TB) (dg : decode M.2.1 pc = .ok (.newarray .boolean, 2)) (hj : n = (N : Int)) (hN : N < 1000) (hc1 : 1 ≤ kc) (hc2 : N ≤ ks) (kk : ∀ q : Nat, h q = none → EV G l M d Q (pc + 2) lv (.ref q :: st) (hset h q (arZ G N (fun _ => 0))) (kc - 1) (ks - N)) : EV G l M d Q pc lv (.int (zI n) :: st) h kc ks := by
  intro p e s m args below meth c A mc ms H locs cells slots ls hC hS hR hD hl h1 h2
  obtain ⟨ws, hP, hDw, hcm⟩ := hR
  subst hj
  refine va_newa (atype := .boolean) (ty := .boolean) (a0 := (N, .inl (fun _ => (0 : Int32)))) (N' := N) hC.1 hC.2.1 (hC.2.2.2.2.2.2.1 _ hw) rfl hC.2.2.2.2.2.2.2.2.1.1 hP (hDw.weaken fun _ q _ x => hD q.1 x) hS hC.2.2.2.2.2.2.2.2.2 (fun cA => rfl) (by rw [zI_lt0 ⟨by omega, by omega⟩]; omega) (zI_clampN (by omega)) (by show N * 1 ≤ _; omega) (by show cells + 1 ≤ mc; omega) (by show slots + N ≤ ms; omega) dg (fun q cA H1 hK1 hP1 hD1 hS1 => ?_)
  have hcA : cA = G.2.2.1 := Cx.arr (t := 1) hC.2.2.2.2.2.2.2.2.1 rfl hK1
  subst hcA
  obtain ⟨z1, z2, z3⟩ := Rl.push hDw hcm hP1 hD1
  exact kk q z1 _ _ _ _ _ _ _ _ _ _ _ _ _ _ _ _ hC hS1 z3 (hD_new z2 hD) hl (by omega) (by omega)
theorem EV.newL {n : Int} {N index : Nat} (hw : Cond.classLink M.1.cls index RX1 ∈ TB) (dg : decode M.2.1 pc = .ok (.anewarray index, 3)) (hj : n = (N : Int)) (hN : N < 1000) (hc1 : 1 ≤ kc) (hc2 : N ≤ ks) (kk : ∀ q : Nat, h q = none → EV G l M d Q (pc + 3) lv (.ref q :: st) (hset h q (arL G N (fun _ => none))) (kc - 1) (ks - N)) : EV G l M d Q pc lv (.int (zI n) :: st) h kc ks := by
  intro p e s m args below meth c A mc ms H locs cells slots ls hC hS hR hD hl h1 h2
  obtain ⟨ws, hP, hDw, hcm⟩ := hR
  subst hj
  refine va_newq (N' := N) hC.1 hC.2.1 hC.2.2.2.2.1 (hC.2.2.2.2.2.2.1 _ hw) hC.2.2.2.2.2.2.2.2.1.2.2 hC.2.2.2.2.2.2.2.2.1.1 hP (hDw.weaken fun _ q _ x => hD q.1 x) hS hC.2.2.2.2.2.2.2.2.2 (by rw [zI_lt0 ⟨by omega, by omega⟩]; omega) (zI_clampN (by omega)) (by omega) (by show cells + 1 ≤ mc; omega) (by show slots + N ≤ ms; omega) dg (fun q cA H1 hK1 hP1 hD1 hS1 => ?_)
  have hcA : cA = G.2.2.2 := Cx.arr (t := 2) hC.2.2.2.2.2.2.2.2.1 rfl hK1
  subst hcA
  obtain ⟨z1, z2, z3⟩ := Rl.push hDw hcm hP1 hD1
  exact kk q z1 _ _ _ _ _ _ _ _ _ _ _ _ _ _ _ _ hC hS1 z3 (hD_new z2 hD) hl (by omega) (by omega)
theorem EV.new {index ci N : Nat} {tyf : Nat → FieldType} {fs : List Value} (fl : FN M.1.cls index ci N tyf) (dg : decode M.2.1 pc = .ok (.new index, 3)) (hfs : ∀ j, j < N → defaultValue (tyf j) = vp_V fs j) (hc1 : 1 ≤ kc) (hc2 : N ≤ ks) (kk : ∀ q : Nat, h q = none → EV G l M d Q (pc + 3) lv (.ref q :: st) (hset h q (obj ci fs)) (kc - 1) (ks - N)) : EV G l M d Q pc lv st h kc ks := by
  intro p e s m args below meth c A mc ms H locs cells slots ls hC hS hR hD hl h1 h2
  obtain ⟨C, T, hc, hin, hty, w1, w2, w3⟩ := fl
  obtain ⟨ws, hP, hDw, hcm⟩ := hR
  have hts := hC.2.2.2.2.2.2.1
  refine va_new (Ts := TB) (C := C) (T := T) (N := N) (ci := ci) (fs := fs) hC.1 hC.2.1 hts hin tyf hty hC.2.2.2.2.1 (hts _ w1) (hts _ w2) (hts _ w3) hC.2.2.2.2.2.2.2.2.1.1 hP (hDw.weaken fun _ q _ x => hD q.1 x) hS hC.2.2.2.2.2.2.2.2.2 hc hfs (by show cells + 1 ≤ mc; omega) (by show slots + N ≤ ms; omega) dg (fun q H1 hP1 hD1 hS1 => ?_)
  obtain ⟨z1, z2, z3⟩ := Rl.push hDw hcm hP1 hD1
  exact kk q z1 _ _ _ _ _ _ _ _ _ _ _ _ _ _ _ _ hC hS1 z3 (hD_new z2 hD) hl (by omega) (by omega)
theorem EV.objInit {index : Nat} (w1 : Cond.methodLink M.1.cls index objectInit ∈ TB) (w2 : Cond.instanceMethod objectInit ∈ TB) (w3 : Cond.code objectInit ⟨#[0xb1]⟩ 1 none ∈ TB) (dg : decode M.2.1 pc = .ok (.invokespecial index, 3)) (hst : (st.map fun v => v.category).sum ≤ 8) (kk : EV G l M (d + 1) Q (pc + 3) lv st h kc ks) : EV G l M (d + 1) Q pc lv (.ref a :: st) h kc ks := by
  intro p e s m args below meth c A mc ms H locs cells slots ls hC hS hR hD hl h1 h2
  have hts := hC.2.2.2.2.2.2.1
  exact W.objInit hC.1 hC.2.1 hC.2.2.2.2.1 (hts _ w1) (hts _ w2) (hts _ w3) rfl (by rw [hC.2.2.1]; exact hl.1) rfl dg (by show 1 ≤ d + 1; omega) (by show 2 * 0 + _ + 12 ≤ 64 * (d + 1); omega) (kk _ _ _ _ _ _ _ _ _ _ _ _ _ _ _ _ hC hS hR hD hl h1 h2)
end EVH
