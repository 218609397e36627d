theorem arr_cg {G : GG} {cl : List vw_C} {q n : Nat} {g g' : Nat → Int} {H : Heap} (hg : ∀ j, j < n → g j = g' j) (h : va_at G.1 cl (q, arI G n g) H) : va_at G.1 cl (q, arI G n g') H := by
  have e : vp_cell G.2.1 (n, .inl (fun j => zI (g j))) = vp_cell G.2.1 (n, .inl (fun j => zI (g' j))) := by
    show arrV G.2.1 n (fun j => .int (zI (g j))) = arrV G.2.1 n (fun j => .int (zI (g' j)))
    unfold arrV
    have h2 : (Array.ofFn (n := n) fun j => Value.int (zI (g j.val))) = Array.ofFn (n := n) fun j => Value.int (zI (g' j.val)) := congrArg (Array.ofFn (n := n)) (funext fun j => by rw [hg j.val j.isLt])
    rw [h2]
  have h1 : H[q]? = some (vp_cell G.2.1 (n, .inl (fun j => zI (g j)))) := h
  show H[q]? = some (vp_cell G.2.1 (n, .inl (fun j => zI (g' j))))
  rw [← e]; exact h1
theorem Rl.cg {G : GG} {h : Hp} {H : Heap} {a n : Nat} {g g' : Nat → Int} (ha : h a = some (arI G n g)) (hg : ∀ j, j < n → g j = g' j) (hR : Rl G h H) : Rl G (hset h a (arI G n g')) H := by
  obtain ⟨ws, hP, hD, hc⟩ := hR
  obtain ⟨k, hk⟩ := hc a _ ha
  refine Rl.set hD hc hk (e := arI G n g') ?_
  intro j q hj
  by_cases hjk : j = k
  · subst hjk
    rw [List.getElem?_set_self (List.getElem?_eq_some_iff.mp hk).1] at hj
    cases hj
    exact arr_cg hg (hP j _ hk)
  · rw [List.getElem?_set_ne (fun z => hjk z.symm)] at hj
    exact hP j q hj
theorem EV.arcg {G : GG} {l : Launch} {M : MD} {d : Nat} {Q : Option Value → Hp → Prop} {pc : Nat} {lv : List (Option Value)} {st : List Value} {h : Hp} {kc ks a n : Nat} {g g' : Nat → Int} (ha : h a = some (arI G n g)) (hg : ∀ j, j < n → g j = g' j) (k : EV G l M d Q pc lv st (hset h a (arI G n g')) kc ks) : EV G l M d Q pc lv st h kc ks := by
  intro p e s m args below meth c A mc ms H locs cells slots ls hC hS hR hD hl h1 h2
  exact k p e s m args below meth c A mc ms H locs cells slots ls hC hS (Rl.cg ha hg hR) (hD_set ha hD) hl h1 h2
theorem EV.copyA {G : GG} {l : Launch} {M : MD} {d : Nat} {Q : Option Value → Hp → Prop} {pc : Nat} {lv : List (Option Value)} {rest : List Value} {h : Hp} {kc ks idx a0 a N : Nat} {f g : Nat → Int} (w1 : Cond.methodLink M.1.cls idx arraycopyName ∈ TB) (w3 : Cond.static arraycopyName ∈ TB) (dg : decode M.2.1 pc = .ok (.invokestatic idx, 3)) (ha0 : h a0 = some (arI G N f)) (ha : h a = some (arI G N g)) (hN : N < 1000) (hW : (rest.map fun v => v.category).sum ≤ 8)
    (kk : EV G l M (d + 1) Q (pc + 3) lv rest (hset h a (arI G N f)) kc ks) : EV G l M (d + 1) Q pc lv (.int (zI (N : Int)) :: .int (zI 0) :: .ref a :: .int (zI 0) :: .ref a0 :: rest) h kc ks := by
  refine EV.copyI w1 nm_COPY w3 in_SYS dg ha0 ha 0 0 N rfl rfl rfl ⟨by omega, by omega, hN, hN⟩ hW ?_
  refine EV.arcg (g' := f) (hset_s _ _ _) (fun j hj => ?_) ?_
  · unfold cpI
    rw [if_pos ⟨Nat.zero_le _, by omega⟩]
    congr 1; omega
  · rw [hset_hset]; exact kk
/-! ===== new cells, one after another ===== -/
def upA (a : Nat → Nat) (k q : Nat) : Nat → Nat := fun j => if j = k then q else a j
/-- from h to h' the cells a lo .. a (hi - 1) came to be C; the first was there before -/
def NW (h h' : Hp) (lo hi : Nat) (a : Nat → Nat) (C : Nat → va_E) : Prop :=
  (∀ i j, lo ≤ i → i < hi → lo ≤ j → j < hi → a i = a j → i = j) ∧ (∀ j, lo < j → j < hi → h (a j) = none) ∧ (∀ j, lo ≤ j → j < hi → h' (a j) = some (C j)) ∧ (∀ q, (∀ j, lo ≤ j → j < hi → q ≠ a j) → h' q = h q)
theorem NW.start {h : Hp} {f : Nat} {e : va_E} (lo : Nat) (hf : h f = some e) : NW h h lo (lo + 1) (fun _ => f) (fun _ => e) :=
  ⟨fun i j _ _ _ _ _ => by omega, fun j h1 h2 => by omega, fun _ _ _ => hf, fun _ _ => rfl⟩
theorem NW.arr {h h' : Hp} {lo hi q : Nat} {a : Nat → Nat} {C : Nat → va_E} {e : va_E} (w : NW h h' lo hi a C) (hlt : lo < hi) (hq : h' q = none) : NW h (hset h' q e) lo (hi + 1) (upA a hi q) (updC C hi e) := by
  have hne : ∀ j, lo ≤ j → j < hi → a j ≠ q := fun j h1 h2 z => by
    have := w.2.2.1 j h1 h2
    rw [z, hq] at this
    exact absurd this (by simp)
  have hup : ∀ j, j < hi → upA a hi q j = a j := fun j hj => by unfold upA; rw [if_neg (by omega)]
  have hue : upA a hi q hi = q := by unfold upA; rw [if_pos rfl]
  refine ⟨fun i j h1 h2 h3 h4 e => ?_, fun j h1 h2 => ?_, fun j h1 h2 => ?_, fun x hx => ?_⟩
  · by_cases hi1 : i = hi
    · by_cases hj1 : j = hi
      · omega
      · subst hi1; rw [hue, hup j (by omega)] at e
        exact absurd e.symm (hne j h3 (by omega))
    · by_cases hj1 : j = hi
      · subst hj1; rw [hue, hup i (by omega)] at e
        exact absurd e (hne i h1 (by omega))
      · rw [hup i (by omega), hup j (by omega)] at e
        exact w.1 i j h1 (by omega) h3 (by omega) e
  · by_cases hj1 : j = hi
    · subst hj1; rw [hue, ← w.2.2.2 q (fun i h3 h4 => (hne i h3 h4).symm)]; exact hq
    · rw [hup j (by omega)]; exact w.2.1 j h1 (by omega)
  · by_cases hj1 : j = hi
    · subst hj1; rw [hue, hset_s]; unfold updC; rw [if_pos rfl]
    · rw [hup j (by omega), hset_n _ _ (hne j h1 (by omega)), w.2.2.1 j h1 (by omega)]; unfold updC; rw [if_neg hj1]
  · have h1 : x ≠ q := by have := hx hi (by omega) (by omega); rw [hue] at this; exact this
    rw [hset_n _ _ h1]
    exact w.2.2.2 x (fun j h2 h3 => by have := hx j h2 (by omega); rw [hup j h3] at this; exact this)
theorem NW.set {h h' : Hp} {lo hi q : Nat} {a : Nat → Nat} {C : Nat → va_E} {e : va_E} (w : NW h h' lo hi a C) (k : Nat) (hk : lo ≤ k ∧ k < hi) (hq : a k = q) : NW h (hset h' q e) lo hi a (updC C k e) := by
  subst hq
  refine ⟨w.1, w.2.1, fun j h1 h2 => ?_, fun x hx => ?_⟩
  · by_cases hj : j = k
    · subst hj; rw [hset_s]; unfold updC; rw [if_pos rfl]
    · rw [hset_n _ _ (fun z => hj (w.1 j k h1 h2 hk.1 hk.2 z)), w.2.2.1 j h1 h2]; unfold updC; rw [if_neg hj]
  · rw [hset_n _ _ (hx k hk.1 hk.2)]; exact w.2.2.2 x hx
theorem NW.mem {h h' : Hp} {lo hi q : Nat} {a : Nat → Nat} {C : Nat → va_E} {e : va_E} (w : NW h h' lo hi a C) (k : Nat) (hk : lo ≤ k ∧ k < hi) (hq : a k = q) (hC : C k = e) : h' q = some e := by
  rw [← hq, ← hC]; exact w.2.2.1 k hk.1 hk.2
theorem NW.cg {h h' : Hp} {lo hi : Nat} {a : Nat → Nat} {C C' : Nat → va_E} (w : NW h h' lo hi a C) (hC : ∀ j, lo ≤ j → j < hi → C j = C' j) : NW h h' lo hi a C' :=
  ⟨w.1, w.2.1, fun j h1 h2 => by rw [w.2.2.1 j h1 h2, hC j h1 h2], w.2.2.2⟩
theorem NW.blk {h H H' : Hp} {lo hi hi2 q : Nat} {a b : Nat → Nat} {C C' : Nat → va_E} {e : va_E} (w : NW h H lo hi a C) (hq : H q = none) (wb : NW (hset H q e) H' hi hi2 b C') (hb : b hi = q) (hlt : lo < hi ∧ hi < hi2) : NW h H' lo hi2 (fun j => if j < hi then a j else b j) (fun j => if j < hi then C j else C' j) := by
  have hbn : ∀ j, hi ≤ j → j < hi2 → H (b j) = none := fun j h1 h2 => by
    by_cases hj : j = hi
    · subst hj; rw [hb]; exact hq
    · have h3 := wb.2.1 j (by omega) h2
      unfold hset at h3
      split at h3
      · exact absurd h3 (by simp)
      · exact h3
  have hne : ∀ i j, lo ≤ i → i < hi → hi ≤ j → j < hi2 → a i ≠ b j := fun i j h1 h2 h3 h4 z => by
    have h5 := w.2.2.1 i h1 h2
    rw [z, hbn j h3 h4] at h5
    exact absurd h5 (by simp)
  have keep : ∀ x, (∀ j, hi ≤ j → j < hi2 → x ≠ b j) → H' x = H x := fun x hx => by
    rw [wb.2.2.2 x hx, hset_n _ _ (by have := hx hi (Nat.le_refl _) hlt.2; rw [hb] at this; exact this)]
  refine ⟨fun i j h1 h2 h3 h4 e => ?_, fun j h1 h2 => ?_, fun j h1 h2 => ?_, fun x hx => ?_⟩
  · by_cases hi1 : i < hi
    · by_cases hj1 : j < hi
      · simp only [hi1, hj1, if_true] at e; exact w.1 i j h1 hi1 h3 hj1 e
      · simp only [hi1, hj1, if_true, if_false] at e; exact absurd e (hne i j h1 hi1 (by omega) h4)
    · by_cases hj1 : j < hi
      · simp only [hi1, hj1, if_true, if_false] at e; exact absurd e.symm (hne j i h3 hj1 (by omega) h2)
      · simp only [hi1, hj1, if_false] at e; exact wb.1 i j (by omega) h2 (by omega) h4 e
  · by_cases hj1 : j < hi
    · simp only [hj1, if_true]; exact w.2.1 j h1 hj1
    · simp only [hj1, if_false]
      rw [← w.2.2.2 (b j) (fun i h3 h4 => (hne i j h3 h4 (by omega) h2).symm)]
      exact hbn j (by omega) h2
  · by_cases hj1 : j < hi
    · simp only [hj1, if_true]
      rw [keep (a j) (fun i h3 h4 => hne j i h1 hj1 h3 h4)]
      exact w.2.2.1 j h1 hj1
    · simp only [hj1, if_false]; exact wb.2.2.1 j (by omega) h2
  · rw [keep x (fun j h1 h2 => by have := hx j (by omega) h2; simp only [Nat.not_lt.mpr h1, if_false] at this; exact this)]
    exact w.2.2.2 x (fun j h1 h2 => by have := hx j h1 (by omega); simp only [h2, if_true] at this; exact this)
theorem NW.shift {h h' : Hp} {lo hi k : Nat} {a : Nat → Nat} {C : Nat → va_E} (w : NW h h' lo hi a C) : NW h h' (lo + k) (hi + k) (fun j => a (j - k)) (fun j => C (j - k)) :=
  ⟨fun i j h1 h2 h3 h4 e => by have := w.1 (i - k) (j - k) (by omega) (by omega) (by omega) (by omega) e; omega, fun j h1 h2 => w.2.1 (j - k) (by omega) (by omega), fun j h1 h2 => w.2.2.1 (j - k) (by omega) (by omega), fun q hq => w.2.2.2 q (fun j h1 h2 => by have := hq (j + k) (by omega) (by omega); simp only [Nat.add_sub_cancel] at this; exact this)⟩
/-- a land with nothing -/
def L0 : LQ := ((0, (fun _ => 0), (fun _ => 0), (fun _ => 0)), (0, (fun _ => 0), (fun _ => 0)), (0, (fun _ => 0), (fun _ => 0)), (fun _ => 0))
def cPd (G : GG) (a : Nat → Nat) (K : PD) (j : Nat) : va_E := match j with
  | 12 => obj 3 [.ref (a 13), .int (zI (K.1 : Int))]
  | _ => arI G 60 K.2
def cMo (G : GG) (a : Nat → Nat) (O : MO) (j : Nat) : va_E := match j with
  | 27 => obj 2 [.int (zI O.1.1), .int (zI O.1.2), .ref (a 28), .ref (a 29), .ref (a 30), .ref (a 31), .ref (a 32)]
  | 28 => arI G 6 O.2.1
  | 29 => arI G 6 O.2.2.1
  | 30 => arI G 36 O.2.2.2.1
  | 31 => arI G 6 O.2.2.2.2.1
  | _ => arI G 6 O.2.2.2.2.2
def cMx (G : GG) (A : Nat → Nat) (X : MX) (j : Nat) : va_E := match j with
  | 0 => obj 7 [.int (zI (X.1.1 : Int)), .ref (A 1), .ref (A 2), .ref (A 3), .int (zI (X.2.1.1 : Int)), .ref (A 4), .ref (A 5), .int (zI (X.2.2.1.1 : Int)), .ref (A 6), .int (zI (X.2.2.2.1.1 : Int)), .ref (A 7), .ref (A 8), .ref (A 9), .ref (A 10)]
  | 1 => arI G 48 X.1.2.2.2
  | 2 => arI G 6 X.1.2.2.1
  | 3 => arI G 6 X.1.2.1
  | 4 => arI G 6 X.2.1.2.1
  | 5 => arI G 6 (nf X.2.1.2.2)
  | 6 => arI G 12 (sgOf X.2.2.1)
  | 7 => arI G 60 X.2.2.2.1.2
  | 8 => arI G 7 X.2.2.2.2.1
  | 9 => arI G 200 X.2.2.2.2.2.1
  | _ => arZ G 2 X.2.2.2.2.2.2
def O0 : MO := ((0, 0), (fun _ => 0), (fun _ => 0), (fun _ => 0), (fun _ => 0), (fun _ => 0))
def X0q : MX := ((0, (fun _ => 0), (fun _ => 0), (fun _ => 0)), (0, (fun _ => 0), (fun _ => 0)), (0, (fun _ => 0), (fun _ => 0)), (0, (fun _ => 0)), (fun _ => 0), (fun _ => 0), (fun _ => 0))
theorem df_X1 : ∀ j, j < 3 → defaultValue (tyX1 j) = vp_V [.null, .null, .null] j := fun j hj => by
  match j, hj with
  | 0, _ => rfl
  | 1, _ => rfl
  | 2, _ => rfl
  | k + 3, hj => exact absurd hj (by omega)
theorem df_X4 : ∀ j, j < 3 → defaultValue (tyX4 j) = vp_V [.int (zI (0)), .null, .null] j := fun j hj => by
  match j, hj with
  | 0, _ => rfl
  | 1, _ => rfl
  | 2, _ => rfl
  | k + 3, hj => exact absurd hj (by omega)
theorem df_X0 : ∀ j, j < 5 → defaultValue (tyX0 j) = vp_V [.int (zI (0)), .null, .null, .null, .null] j := fun j hj => by
  match j, hj with
  | 0, _ => rfl
  | 1, _ => rfl
  | 2, _ => rfl
  | 3, _ => rfl
  | 4, _ => rfl
  | k + 5, hj => exact absurd hj (by omega)
theorem df_X5 : ∀ j, j < 3 → defaultValue (tyX5 j) = vp_V [.int (zI (0)), .null, .null] j := fun j hj => by
  match j, hj with
  | 0, _ => rfl
  | 1, _ => rfl
  | 2, _ => rfl
  | k + 3, hj => exact absurd hj (by omega)
theorem df_X7 : ∀ j, j < 14 → defaultValue (tyX7 j) = vp_V [.int (zI (0)), .null, .null, .null, .int (zI (0)), .null, .null, .int (zI (0)), .null, .int (zI (0)), .null, .null, .null, .null] j := fun j hj => by
  match j, hj with
  | 0, _ => rfl
  | 1, _ => rfl
  | 2, _ => rfl
  | 3, _ => rfl
  | 4, _ => rfl
  | 5, _ => rfl
  | 6, _ => rfl
  | 7, _ => rfl
  | 8, _ => rfl
  | 9, _ => rfl
  | 10, _ => rfl
  | 11, _ => rfl
  | 12, _ => rfl
  | 13, _ => rfl
  | k + 14, hj => exact absurd hj (by omega)
theorem df_X6 : ∀ j, j < 4 → defaultValue (tyX6 j) = vp_V [.null, .null, .null, .null] j := fun j hj => by
  match j, hj with
  | 0, _ => rfl
  | 1, _ => rfl
  | 2, _ => rfl
  | 3, _ => rfl
  | k + 4, hj => exact absurd hj (by omega)
theorem df_X3 : ∀ j, j < 2 → defaultValue (tyX3 j) = vp_V [.null, .int (zI (0))] j := fun j hj => by
  match j, hj with
  | 0, _ => rfl
  | 1, _ => rfl
  | k + 2, hj => exact absurd hj (by omega)
theorem df_X2 : ∀ j, j < 7 → defaultValue (tyX2 j) = vp_V [.int (zI (0)), .int (zI (0)), .null, .null, .null, .null, .null] j := fun j hj => by
  match j, hj with
  | 0, _ => rfl
  | 1, _ => rfl
  | 2, _ => rfl
  | 3, _ => rfl
  | 4, _ => rfl
  | 5, _ => rfl
  | 6, _ => rfl
  | k + 7, hj => exact absurd hj (by omega)
section
variable {G : GG} {l : Launch}
set_option maxHeartbeats 4000000 in
set_option maxRecDepth 20000 in
theorem c_X0_init (d : Nat) {h : Hp} {f : Nat} (hf : h f = some (obj 0 [.int (zI (0)), .null, .null, .null, .null])) : CT G l mX0_init (d + 2) 4 68 [.ref f] h (fun o h' => o = none ∧ ∃ a : Nat → Nat, a 1 = f ∧ NW h h' 1 6 a (cL G a L0)) := by
  refine CT.of (by decide) (Nat.le_of_ble_eq_true rfl) (List.forall_mem_cons.mpr ⟨rfl, fun _ h => absurd h List.not_mem_nil⟩) ?_
  refine EV.lvs (lv' := [some (.ref f)]) rfl ?_
  have w0 := NW.start 1 hf
  refine EV.aload_n (i := 0) dX0_init_0 rfl rfl ?_
  refine EV.objInit ml_X0_3 im_OBJ cd_OBJ dX0_init_1 (Nat.le_of_ble_eq_true rfl) ?_
  refine EV.aload_n (i := 0) dX0_init_4 rfl rfl ?_
  refine EV.bipush dX0_init_5 (by decide) ?_
  refine EV.newI ac_int dX0_init_7 (N := 6) rfl (by decide) (by decide) (by decide) (fun q7 n7 => ?_)
  have w7 := NW.arr (e := (arI G 6 (fun _ => 0))) w0 (by decide) n7
  have g7 := NW.mem (q := f) (e := obj 0 [.int (zI (0)), .null, .null, .null, .null]) w7 1 (by decide) rfl rfl
  refine EV.putF (fs' := [.int (zI (0)), .ref q7, .null, .null, .null]) fq_X0_9 rfl dX0_init_9 g7 (Nat.le_of_ble_eq_true rfl) rfl rfl rfl ?_
  have w9 := NW.set (q := f) (e := obj 0 [.int (zI (0)), .ref q7, .null, .null, .null]) w7 1 (by decide) rfl
  have g9 := NW.mem (q := f) (e := obj 0 [.int (zI (0)), .ref q7, .null, .null, .null]) w9 1 (by decide) rfl rfl
  refine EV.aload_n (i := 0) dX0_init_12 rfl rfl ?_
  refine EV.bipush dX0_init_13 (by decide) ?_
  refine EV.newI ac_int dX0_init_15 (N := 6) rfl (by decide) (by decide) (by decide) (fun q15 n15 => ?_)
  have w15 := NW.arr (e := (arI G 6 (fun _ => 0))) w9 (by decide) n15
  have g15 := NW.mem (q := f) (e := obj 0 [.int (zI (0)), .ref q7, .null, .null, .null]) w15 1 (by decide) rfl rfl
  refine EV.putF (fs' := [.int (zI (0)), .ref q7, .ref q15, .null, .null]) fq_X0_15 rfl dX0_init_17 g15 (Nat.le_of_ble_eq_true rfl) rfl rfl rfl ?_
  have w17 := NW.set (q := f) (e := obj 0 [.int (zI (0)), .ref q7, .ref q15, .null, .null]) w15 1 (by decide) rfl
  have g17 := NW.mem (q := f) (e := obj 0 [.int (zI (0)), .ref q7, .ref q15, .null, .null]) w17 1 (by decide) rfl rfl
  refine EV.aload_n (i := 0) dX0_init_20 rfl rfl ?_
  refine EV.bipush dX0_init_21 (by decide) ?_
  refine EV.newI ac_int dX0_init_23 (N := 48) rfl (by decide) (by decide) (by decide) (fun q23 n23 => ?_)
  have w23 := NW.arr (e := (arI G 48 (fun _ => 0))) w17 (by decide) n23
  have g23 := NW.mem (q := f) (e := obj 0 [.int (zI (0)), .ref q7, .ref q15, .null, .null]) w23 1 (by decide) rfl rfl
  refine EV.putF (fs' := [.int (zI (0)), .ref q7, .ref q15, .ref q23, .null]) fq_X0_18 rfl dX0_init_25 g23 (Nat.le_of_ble_eq_true rfl) rfl rfl rfl ?_
  have w25 := NW.set (q := f) (e := obj 0 [.int (zI (0)), .ref q7, .ref q15, .ref q23, .null]) w23 1 (by decide) rfl
  have g25 := NW.mem (q := f) (e := obj 0 [.int (zI (0)), .ref q7, .ref q15, .ref q23, .null]) w25 1 (by decide) rfl rfl
  refine EV.aload_n (i := 0) dX0_init_28 rfl rfl ?_
  refine EV.bipush dX0_init_29 (by decide) ?_
  refine EV.newI ac_int dX0_init_31 (N := 8) rfl (by decide) (by decide) (by decide) (fun q31 n31 => ?_)
  have w31 := NW.arr (e := (arI G 8 (fun _ => 0))) w25 (by decide) n31
  have g31 := NW.mem (q := f) (e := obj 0 [.int (zI (0)), .ref q7, .ref q15, .ref q23, .null]) w31 1 (by decide) rfl rfl
  refine EV.putF (fs' := [.int (zI (0)), .ref q7, .ref q15, .ref q23, .ref q31]) fq_X0_21 rfl dX0_init_33 g31 (Nat.le_of_ble_eq_true rfl) rfl rfl rfl ?_
  have w33 := NW.set (q := f) (e := obj 0 [.int (zI (0)), .ref q7, .ref q15, .ref q23, .ref q31]) w31 1 (by decide) rfl
  have g33 := NW.mem (q := f) (e := obj 0 [.int (zI (0)), .ref q7, .ref q15, .ref q23, .ref q31]) w33 1 (by decide) rfl rfl
  refine EV.vret rfl dX0_init_36 ?_
  refine ⟨rfl, _, rfl, NW.cg w33 (fun j h1 h2 => ?_)⟩
  rcases (show j = 1 ∨ j = 2 ∨ j = 3 ∨ j = 4 ∨ j = 5 by omega) with rfl | rfl | rfl | rfl | rfl <;> first | rfl | (show arI G 12 (fun _ => 0) = arI G 12 (sgOf X0q.2.2.1); congr 1; funext j; unfold sgOf; split <;> rfl)
set_option maxHeartbeats 4000000 in
set_option maxRecDepth 20000 in
theorem c_X4_init (d : Nat) {h : Hp} {f : Nat} (hf : h f = some (obj 4 [.int (zI (0)), .null, .null])) : CT G l mX4_init (d + 2) 2 12 [.ref f] h (fun o h' => o = none ∧ ∃ a : Nat → Nat, a 6 = f ∧ NW h h' 6 9 a (cL G a L0)) := by
  refine CT.of (by decide) (Nat.le_of_ble_eq_true rfl) (List.forall_mem_cons.mpr ⟨rfl, fun _ h => absurd h List.not_mem_nil⟩) ?_
  refine EV.lvs (lv' := [some (.ref f)]) rfl ?_
  have w0 := NW.start 6 hf
  refine EV.aload_n (i := 0) dX4_init_0 rfl rfl ?_
  refine EV.objInit ml_X4_3 im_OBJ cd_OBJ dX4_init_1 (Nat.le_of_ble_eq_true rfl) ?_
  refine EV.aload_n (i := 0) dX4_init_4 rfl rfl ?_
  refine EV.bipush dX4_init_5 (by decide) ?_
  refine EV.newI ac_int dX4_init_7 (N := 6) rfl (by decide) (by decide) (by decide) (fun q7 n7 => ?_)
  have w7 := NW.arr (e := (arI G 6 (fun _ => 0))) w0 (by decide) n7
  have g7 := NW.mem (q := f) (e := obj 4 [.int (zI (0)), .null, .null]) w7 6 (by decide) rfl rfl
  refine EV.putF (fs' := [.int (zI (0)), .ref q7, .null]) fq_X4_9 rfl dX4_init_9 g7 (Nat.le_of_ble_eq_true rfl) rfl rfl rfl ?_
  have w9 := NW.set (q := f) (e := obj 4 [.int (zI (0)), .ref q7, .null]) w7 6 (by decide) rfl
  have g9 := NW.mem (q := f) (e := obj 4 [.int (zI (0)), .ref q7, .null]) w9 6 (by decide) rfl rfl
  refine EV.aload_n (i := 0) dX4_init_12 rfl rfl ?_
  refine EV.bipush dX4_init_13 (by decide) ?_
  refine EV.newI ac_int dX4_init_15 (N := 6) rfl (by decide) (by decide) (by decide) (fun q15 n15 => ?_)
  have w15 := NW.arr (e := (arI G 6 (fun _ => 0))) w9 (by decide) n15
  have g15 := NW.mem (q := f) (e := obj 4 [.int (zI (0)), .ref q7, .null]) w15 6 (by decide) rfl rfl
  refine EV.putF (fs' := [.int (zI (0)), .ref q7, .ref q15]) fq_X4_15 rfl dX4_init_17 g15 (Nat.le_of_ble_eq_true rfl) rfl rfl rfl ?_
  have w17 := NW.set (q := f) (e := obj 4 [.int (zI (0)), .ref q7, .ref q15]) w15 6 (by decide) rfl
  have g17 := NW.mem (q := f) (e := obj 4 [.int (zI (0)), .ref q7, .ref q15]) w17 6 (by decide) rfl rfl
  refine EV.vret rfl dX4_init_20 ?_
  refine ⟨rfl, _, rfl, NW.cg w17 (fun j h1 h2 => ?_)⟩
  rcases (show j = 6 ∨ j = 7 ∨ j = 8 by omega) with rfl | rfl | rfl <;> first | rfl | (show arI G 12 (fun _ => 0) = arI G 12 (sgOf X0q.2.2.1); congr 1; funext j; unfold sgOf; split <;> rfl)
set_option maxHeartbeats 4000000 in
set_option maxRecDepth 20000 in
theorem c_X5_init (d : Nat) {h : Hp} {f : Nat} (hf : h f = some (obj 5 [.int (zI (0)), .null, .null])) : CT G l mX5_init (d + 2) 2 12 [.ref f] h (fun o h' => o = none ∧ ∃ a : Nat → Nat, a 9 = f ∧ NW h h' 9 12 a (cL G a L0)) := by
  refine CT.of (by decide) (Nat.le_of_ble_eq_true rfl) (List.forall_mem_cons.mpr ⟨rfl, fun _ h => absurd h List.not_mem_nil⟩) ?_
  refine EV.lvs (lv' := [some (.ref f)]) rfl ?_
  have w0 := NW.start 9 hf
  refine EV.aload_n (i := 0) dX5_init_0 rfl rfl ?_
  refine EV.objInit ml_X5_3 im_OBJ cd_OBJ dX5_init_1 (Nat.le_of_ble_eq_true rfl) ?_
  refine EV.aload_n (i := 0) dX5_init_4 rfl rfl ?_
  refine EV.bipush dX5_init_5 (by decide) ?_
  refine EV.newI ac_int dX5_init_7 (N := 6) rfl (by decide) (by decide) (by decide) (fun q7 n7 => ?_)
  have w7 := NW.arr (e := (arI G 6 (fun _ => 0))) w0 (by decide) n7
  have g7 := NW.mem (q := f) (e := obj 5 [.int (zI (0)), .null, .null]) w7 9 (by decide) rfl rfl
  refine EV.putF (fs' := [.int (zI (0)), .ref q7, .null]) fq_X5_9 rfl dX5_init_9 g7 (Nat.le_of_ble_eq_true rfl) rfl rfl rfl ?_
  have w9 := NW.set (q := f) (e := obj 5 [.int (zI (0)), .ref q7, .null]) w7 9 (by decide) rfl
  have g9 := NW.mem (q := f) (e := obj 5 [.int (zI (0)), .ref q7, .null]) w9 9 (by decide) rfl rfl
  refine EV.aload_n (i := 0) dX5_init_12 rfl rfl ?_
  refine EV.bipush dX5_init_13 (by decide) ?_
  refine EV.newI ac_int dX5_init_15 (N := 6) rfl (by decide) (by decide) (by decide) (fun q15 n15 => ?_)
  have w15 := NW.arr (e := (arI G 6 (fun _ => 0))) w9 (by decide) n15
  have g15 := NW.mem (q := f) (e := obj 5 [.int (zI (0)), .ref q7, .null]) w15 9 (by decide) rfl rfl
  refine EV.putF (fs' := [.int (zI (0)), .ref q7, .ref q15]) fq_X5_15 rfl dX5_init_17 g15 (Nat.le_of_ble_eq_true rfl) rfl rfl rfl ?_
  have w17 := NW.set (q := f) (e := obj 5 [.int (zI (0)), .ref q7, .ref q15]) w15 9 (by decide) rfl
  have g17 := NW.mem (q := f) (e := obj 5 [.int (zI (0)), .ref q7, .ref q15]) w17 9 (by decide) rfl rfl
  refine EV.vret rfl dX5_init_20 ?_
  refine ⟨rfl, _, rfl, NW.cg w17 (fun j h1 h2 => ?_)⟩
  rcases (show j = 9 ∨ j = 10 ∨ j = 11 by omega) with rfl | rfl | rfl <;> first | rfl | (show arI G 12 (fun _ => 0) = arI G 12 (sgOf X0q.2.2.1); congr 1; funext j; unfold sgOf; split <;> rfl)
set_option maxHeartbeats 4000000 in
set_option maxRecDepth 20000 in
theorem c_X3_init (d : Nat) {h : Hp} {f : Nat} (hf : h f = some (obj 3 [.null, .int (zI (0))])) : CT G l mX3_init (d + 2) 1 60 [.ref f] h (fun o h' => o = none ∧ ∃ a : Nat → Nat, a 12 = f ∧ NW h h' 12 14 a (cPd G a (0, fun _ => 0))) := by
  refine CT.of (by decide) (Nat.le_of_ble_eq_true rfl) (List.forall_mem_cons.mpr ⟨rfl, fun _ h => absurd h List.not_mem_nil⟩) ?_
  refine EV.lvs (lv' := [some (.ref f)]) rfl ?_
  have w0 := NW.start 12 hf
  refine EV.aload_n (i := 0) dX3_init_0 rfl rfl ?_
  refine EV.objInit ml_X3_3 im_OBJ cd_OBJ dX3_init_1 (Nat.le_of_ble_eq_true rfl) ?_
  refine EV.aload_n (i := 0) dX3_init_4 rfl rfl ?_
  refine EV.bipush dX3_init_5 (by decide) ?_
  refine EV.newI ac_int dX3_init_7 (N := 60) rfl (by decide) (by decide) (by decide) (fun q7 n7 => ?_)
  have w7 := NW.arr (e := (arI G 60 (fun _ => 0))) w0 (by decide) n7
  have g7 := NW.mem (q := f) (e := obj 3 [.null, .int (zI (0))]) w7 12 (by decide) rfl rfl
  refine EV.putF (fs' := [.ref q7, .int (zI (0))]) fq_X3_9 rfl dX3_init_9 g7 (Nat.le_of_ble_eq_true rfl) rfl rfl rfl ?_
  have w9 := NW.set (q := f) (e := obj 3 [.ref q7, .int (zI (0))]) w7 12 (by decide) rfl
  have g9 := NW.mem (q := f) (e := obj 3 [.ref q7, .int (zI (0))]) w9 12 (by decide) rfl rfl
  refine EV.vret rfl dX3_init_12 ?_
  refine ⟨rfl, _, rfl, NW.cg w9 (fun j h1 h2 => ?_)⟩
  rcases (show j = 12 ∨ j = 13 by omega) with rfl | rfl <;> first | rfl | (show arI G 12 (fun _ => 0) = arI G 12 (sgOf X0q.2.2.1); congr 1; funext j; unfold sgOf; split <;> rfl)
set_option maxHeartbeats 4000000 in
set_option maxRecDepth 20000 in
theorem c_X2_init (d : Nat) {h : Hp} {f : Nat} (hf : h f = some (obj 2 [.int (zI (0)), .int (zI (0)), .null, .null, .null, .null, .null])) : CT G l mX2_init (d + 2) 5 60 [.ref f] h (fun o h' => o = none ∧ ∃ a : Nat → Nat, a 27 = f ∧ NW h h' 27 33 a (cMo G a O0)) := by
  refine CT.of (by decide) (Nat.le_of_ble_eq_true rfl) (List.forall_mem_cons.mpr ⟨rfl, fun _ h => absurd h List.not_mem_nil⟩) ?_
  refine EV.lvs (lv' := [some (.ref f)]) rfl ?_
  have w0 := NW.start 27 hf
  refine EV.aload_n (i := 0) dX2_init_0 rfl rfl ?_
  refine EV.objInit ml_X2_3 im_OBJ cd_OBJ dX2_init_1 (Nat.le_of_ble_eq_true rfl) ?_
  refine EV.aload_n (i := 0) dX2_init_4 rfl rfl ?_
  refine EV.bipush dX2_init_5 (by decide) ?_
  refine EV.newI ac_int dX2_init_7 (N := 6) rfl (by decide) (by decide) (by decide) (fun q7 n7 => ?_)
  have w7 := NW.arr (e := (arI G 6 (fun _ => 0))) w0 (by decide) n7
  have g7 := NW.mem (q := f) (e := obj 2 [.int (zI (0)), .int (zI (0)), .null, .null, .null, .null, .null]) w7 27 (by decide) rfl rfl
  refine EV.putF (fs' := [.int (zI (0)), .int (zI (0)), .ref q7, .null, .null, .null, .null]) fq_X2_9 rfl dX2_init_9 g7 (Nat.le_of_ble_eq_true rfl) rfl rfl rfl ?_
  have w9 := NW.set (q := f) (e := obj 2 [.int (zI (0)), .int (zI (0)), .ref q7, .null, .null, .null, .null]) w7 27 (by decide) rfl
  have g9 := NW.mem (q := f) (e := obj 2 [.int (zI (0)), .int (zI (0)), .ref q7, .null, .null, .null, .null]) w9 27 (by decide) rfl rfl
  refine EV.aload_n (i := 0) dX2_init_12 rfl rfl ?_
  refine EV.bipush dX2_init_13 (by decide) ?_
  refine EV.newI ac_int dX2_init_15 (N := 6) rfl (by decide) (by decide) (by decide) (fun q15 n15 => ?_)
  have w15 := NW.arr (e := (arI G 6 (fun _ => 0))) w9 (by decide) n15
  have g15 := NW.mem (q := f) (e := obj 2 [.int (zI (0)), .int (zI (0)), .ref q7, .null, .null, .null, .null]) w15 27 (by decide) rfl rfl
  refine EV.putF (fs' := [.int (zI (0)), .int (zI (0)), .ref q7, .ref q15, .null, .null, .null]) fq_X2_15 rfl dX2_init_17 g15 (Nat.le_of_ble_eq_true rfl) rfl rfl rfl ?_
  have w17 := NW.set (q := f) (e := obj 2 [.int (zI (0)), .int (zI (0)), .ref q7, .ref q15, .null, .null, .null]) w15 27 (by decide) rfl
  have g17 := NW.mem (q := f) (e := obj 2 [.int (zI (0)), .int (zI (0)), .ref q7, .ref q15, .null, .null, .null]) w17 27 (by decide) rfl rfl
  refine EV.aload_n (i := 0) dX2_init_20 rfl rfl ?_
  refine EV.bipush dX2_init_21 (by decide) ?_
  refine EV.newI ac_int dX2_init_23 (N := 36) rfl (by decide) (by decide) (by decide) (fun q23 n23 => ?_)
  have w23 := NW.arr (e := (arI G 36 (fun _ => 0))) w17 (by decide) n23
  have g23 := NW.mem (q := f) (e := obj 2 [.int (zI (0)), .int (zI (0)), .ref q7, .ref q15, .null, .null, .null]) w23 27 (by decide) rfl rfl
  refine EV.putF (fs' := [.int (zI (0)), .int (zI (0)), .ref q7, .ref q15, .ref q23, .null, .null]) fq_X2_18 rfl dX2_init_25 g23 (Nat.le_of_ble_eq_true rfl) rfl rfl rfl ?_
  have w25 := NW.set (q := f) (e := obj 2 [.int (zI (0)), .int (zI (0)), .ref q7, .ref q15, .ref q23, .null, .null]) w23 27 (by decide) rfl
  have g25 := NW.mem (q := f) (e := obj 2 [.int (zI (0)), .int (zI (0)), .ref q7, .ref q15, .ref q23, .null, .null]) w25 27 (by decide) rfl rfl
  refine EV.aload_n (i := 0) dX2_init_28 rfl rfl ?_
  refine EV.bipush dX2_init_29 (by decide) ?_
  refine EV.newI ac_int dX2_init_31 (N := 6) rfl (by decide) (by decide) (by decide) (fun q31 n31 => ?_)
  have w31 := NW.arr (e := (arI G 6 (fun _ => 0))) w25 (by decide) n31
  have g31 := NW.mem (q := f) (e := obj 2 [.int (zI (0)), .int (zI (0)), .ref q7, .ref q15, .ref q23, .null, .null]) w31 27 (by decide) rfl rfl
  refine EV.putF (fs' := [.int (zI (0)), .int (zI (0)), .ref q7, .ref q15, .ref q23, .ref q31, .null]) fq_X2_21 rfl dX2_init_33 g31 (Nat.le_of_ble_eq_true rfl) rfl rfl rfl ?_
  have w33 := NW.set (q := f) (e := obj 2 [.int (zI (0)), .int (zI (0)), .ref q7, .ref q15, .ref q23, .ref q31, .null]) w31 27 (by decide) rfl
  have g33 := NW.mem (q := f) (e := obj 2 [.int (zI (0)), .int (zI (0)), .ref q7, .ref q15, .ref q23, .ref q31, .null]) w33 27 (by decide) rfl rfl
  refine EV.aload_n (i := 0) dX2_init_36 rfl rfl ?_
  refine EV.bipush dX2_init_37 (by decide) ?_
  refine EV.newI ac_int dX2_init_39 (N := 6) rfl (by decide) (by decide) (by decide) (fun q39 n39 => ?_)
  have w39 := NW.arr (e := (arI G 6 (fun _ => 0))) w33 (by decide) n39
  have g39 := NW.mem (q := f) (e := obj 2 [.int (zI (0)), .int (zI (0)), .ref q7, .ref q15, .ref q23, .ref q31, .null]) w39 27 (by decide) rfl rfl
  refine EV.putF (fs' := [.int (zI (0)), .int (zI (0)), .ref q7, .ref q15, .ref q23, .ref q31, .ref q39]) fq_X2_24 rfl dX2_init_41 g39 (Nat.le_of_ble_eq_true rfl) rfl rfl rfl ?_
  have w41 := NW.set (q := f) (e := obj 2 [.int (zI (0)), .int (zI (0)), .ref q7, .ref q15, .ref q23, .ref q31, .ref q39]) w39 27 (by decide) rfl
  have g41 := NW.mem (q := f) (e := obj 2 [.int (zI (0)), .int (zI (0)), .ref q7, .ref q15, .ref q23, .ref q31, .ref q39]) w41 27 (by decide) rfl rfl
  refine EV.vret rfl dX2_init_44 ?_
  refine ⟨rfl, _, rfl, NW.cg w41 (fun j h1 h2 => ?_)⟩
  rcases (show j = 27 ∨ j = 28 ∨ j = 29 ∨ j = 30 ∨ j = 31 ∨ j = 32 by omega) with rfl | rfl | rfl | rfl | rfl | rfl <;> first | rfl | (show arI G 12 (fun _ => 0) = arI G 12 (sgOf X0q.2.2.1); congr 1; funext j; unfold sgOf; split <;> rfl)
set_option maxHeartbeats 4000000 in
set_option maxRecDepth 20000 in
theorem c_X7_init (d : Nat) {h : Hp} {f : Nat} (hf : h f = some (obj 7 [.int (zI (0)), .null, .null, .null, .int (zI (0)), .null, .null, .int (zI (0)), .null, .int (zI (0)), .null, .null, .null, .null])) : CT G l mX7_init (d + 2) 10 405 [.ref f] h (fun o h' => o = none ∧ ∃ a : Nat → Nat, a 0 = f ∧ NW h h' 0 11 a (cMx G a X0q)) := by
  refine CT.of (by decide) (Nat.le_of_ble_eq_true rfl) (List.forall_mem_cons.mpr ⟨rfl, fun _ h => absurd h List.not_mem_nil⟩) ?_
  refine EV.lvs (lv' := [some (.ref f)]) rfl ?_
  have w0 := NW.start 0 hf
  refine EV.aload_n (i := 0) dX7_init_0 rfl rfl ?_
  refine EV.objInit ml_X7_1 im_OBJ cd_OBJ dX7_init_1 (Nat.le_of_ble_eq_true rfl) ?_
  refine EV.aload_n (i := 0) dX7_init_4 rfl rfl ?_
  refine EV.bipush dX7_init_5 (by decide) ?_
  refine EV.newI ac_int dX7_init_7 (N := 48) rfl (by decide) (by decide) (by decide) (fun q7 n7 => ?_)
  have w7 := NW.arr (e := (arI G 48 (fun _ => 0))) w0 (by decide) n7
  have g7 := NW.mem (q := f) (e := obj 7 [.int (zI (0)), .null, .null, .null, .int (zI (0)), .null, .null, .int (zI (0)), .null, .int (zI (0)), .null, .null, .null, .null]) w7 0 (by decide) rfl rfl
  refine EV.putF (fs' := [.int (zI (0)), .ref q7, .null, .null, .int (zI (0)), .null, .null, .int (zI (0)), .null, .int (zI (0)), .null, .null, .null, .null]) fq_X7_7 rfl dX7_init_9 g7 (Nat.le_of_ble_eq_true rfl) rfl rfl rfl ?_
  have w9 := NW.set (q := f) (e := obj 7 [.int (zI (0)), .ref q7, .null, .null, .int (zI (0)), .null, .null, .int (zI (0)), .null, .int (zI (0)), .null, .null, .null, .null]) w7 0 (by decide) rfl
  have g9 := NW.mem (q := f) (e := obj 7 [.int (zI (0)), .ref q7, .null, .null, .int (zI (0)), .null, .null, .int (zI (0)), .null, .int (zI (0)), .null, .null, .null, .null]) w9 0 (by decide) rfl rfl
  refine EV.aload_n (i := 0) dX7_init_12 rfl rfl ?_
  refine EV.bipush dX7_init_13 (by decide) ?_
  refine EV.newI ac_int dX7_init_15 (N := 6) rfl (by decide) (by decide) (by decide) (fun q15 n15 => ?_)
  have w15 := NW.arr (e := (arI G 6 (fun _ => 0))) w9 (by decide) n15
  have g15 := NW.mem (q := f) (e := obj 7 [.int (zI (0)), .ref q7, .null, .null, .int (zI (0)), .null, .null, .int (zI (0)), .null, .int (zI (0)), .null, .null, .null, .null]) w15 0 (by decide) rfl rfl
  refine EV.putF (fs' := [.int (zI (0)), .ref q7, .ref q15, .null, .int (zI (0)), .null, .null, .int (zI (0)), .null, .int (zI (0)), .null, .null, .null, .null]) fq_X7_13 rfl dX7_init_17 g15 (Nat.le_of_ble_eq_true rfl) rfl rfl rfl ?_
  have w17 := NW.set (q := f) (e := obj 7 [.int (zI (0)), .ref q7, .ref q15, .null, .int (zI (0)), .null, .null, .int (zI (0)), .null, .int (zI (0)), .null, .null, .null, .null]) w15 0 (by decide) rfl
  have g17 := NW.mem (q := f) (e := obj 7 [.int (zI (0)), .ref q7, .ref q15, .null, .int (zI (0)), .null, .null, .int (zI (0)), .null, .int (zI (0)), .null, .null, .null, .null]) w17 0 (by decide) rfl rfl
  refine EV.aload_n (i := 0) dX7_init_20 rfl rfl ?_
  refine EV.bipush dX7_init_21 (by decide) ?_
  refine EV.newI ac_int dX7_init_23 (N := 6) rfl (by decide) (by decide) (by decide) (fun q23 n23 => ?_)
  have w23 := NW.arr (e := (arI G 6 (fun _ => 0))) w17 (by decide) n23
  have g23 := NW.mem (q := f) (e := obj 7 [.int (zI (0)), .ref q7, .ref q15, .null, .int (zI (0)), .null, .null, .int (zI (0)), .null, .int (zI (0)), .null, .null, .null, .null]) w23 0 (by decide) rfl rfl
  refine EV.putF (fs' := [.int (zI (0)), .ref q7, .ref q15, .ref q23, .int (zI (0)), .null, .null, .int (zI (0)), .null, .int (zI (0)), .null, .null, .null, .null]) fq_X7_16 rfl dX7_init_25 g23 (Nat.le_of_ble_eq_true rfl) rfl rfl rfl ?_
  have w25 := NW.set (q := f) (e := obj 7 [.int (zI (0)), .ref q7, .ref q15, .ref q23, .int (zI (0)), .null, .null, .int (zI (0)), .null, .int (zI (0)), .null, .null, .null, .null]) w23 0 (by decide) rfl
  have g25 := NW.mem (q := f) (e := obj 7 [.int (zI (0)), .ref q7, .ref q15, .ref q23, .int (zI (0)), .null, .null, .int (zI (0)), .null, .int (zI (0)), .null, .null, .null, .null]) w25 0 (by decide) rfl rfl
  refine EV.aload_n (i := 0) dX7_init_28 rfl rfl ?_
  refine EV.bipush dX7_init_29 (by decide) ?_
  refine EV.newI ac_int dX7_init_31 (N := 6) rfl (by decide) (by decide) (by decide) (fun q31 n31 => ?_)
  have w31 := NW.arr (e := (arI G 6 (fun _ => 0))) w25 (by decide) n31
  have g31 := NW.mem (q := f) (e := obj 7 [.int (zI (0)), .ref q7, .ref q15, .ref q23, .int (zI (0)), .null, .null, .int (zI (0)), .null, .int (zI (0)), .null, .null, .null, .null]) w31 0 (by decide) rfl rfl
  refine EV.putF (fs' := [.int (zI (0)), .ref q7, .ref q15, .ref q23, .int (zI (0)), .ref q31, .null, .int (zI (0)), .null, .int (zI (0)), .null, .null, .null, .null]) fq_X7_19 rfl dX7_init_33 g31 (Nat.le_of_ble_eq_true rfl) rfl rfl rfl ?_
  have w33 := NW.set (q := f) (e := obj 7 [.int (zI (0)), .ref q7, .ref q15, .ref q23, .int (zI (0)), .ref q31, .null, .int (zI (0)), .null, .int (zI (0)), .null, .null, .null, .null]) w31 0 (by decide) rfl
  have g33 := NW.mem (q := f) (e := obj 7 [.int (zI (0)), .ref q7, .ref q15, .ref q23, .int (zI (0)), .ref q31, .null, .int (zI (0)), .null, .int (zI (0)), .null, .null, .null, .null]) w33 0 (by decide) rfl rfl
  refine EV.aload_n (i := 0) dX7_init_36 rfl rfl ?_
  refine EV.bipush dX7_init_37 (by decide) ?_
  refine EV.newI ac_int dX7_init_39 (N := 6) rfl (by decide) (by decide) (by decide) (fun q39 n39 => ?_)
  have w39 := NW.arr (e := (arI G 6 (fun _ => 0))) w33 (by decide) n39
  have g39 := NW.mem (q := f) (e := obj 7 [.int (zI (0)), .ref q7, .ref q15, .ref q23, .int (zI (0)), .ref q31, .null, .int (zI (0)), .null, .int (zI (0)), .null, .null, .null, .null]) w39 0 (by decide) rfl rfl
  refine EV.putF (fs' := [.int (zI (0)), .ref q7, .ref q15, .ref q23, .int (zI (0)), .ref q31, .ref q39, .int (zI (0)), .null, .int (zI (0)), .null, .null, .null, .null]) fq_X7_22 rfl dX7_init_41 g39 (Nat.le_of_ble_eq_true rfl) rfl rfl rfl ?_
  have w41 := NW.set (q := f) (e := obj 7 [.int (zI (0)), .ref q7, .ref q15, .ref q23, .int (zI (0)), .ref q31, .ref q39, .int (zI (0)), .null, .int (zI (0)), .null, .null, .null, .null]) w39 0 (by decide) rfl
  have g41 := NW.mem (q := f) (e := obj 7 [.int (zI (0)), .ref q7, .ref q15, .ref q23, .int (zI (0)), .ref q31, .ref q39, .int (zI (0)), .null, .int (zI (0)), .null, .null, .null, .null]) w41 0 (by decide) rfl rfl
  refine EV.aload_n (i := 0) dX7_init_44 rfl rfl ?_
  refine EV.bipush dX7_init_45 (by decide) ?_
  refine EV.newI ac_int dX7_init_47 (N := 12) rfl (by decide) (by decide) (by decide) (fun q47 n47 => ?_)
  have w47 := NW.arr (e := (arI G 12 (fun _ => 0))) w41 (by decide) n47
  have g47 := NW.mem (q := f) (e := obj 7 [.int (zI (0)), .ref q7, .ref q15, .ref q23, .int (zI (0)), .ref q31, .ref q39, .int (zI (0)), .null, .int (zI (0)), .null, .null, .null, .null]) w47 0 (by decide) rfl rfl
  refine EV.putF (fs' := [.int (zI (0)), .ref q7, .ref q15, .ref q23, .int (zI (0)), .ref q31, .ref q39, .int (zI (0)), .ref q47, .int (zI (0)), .null, .null, .null, .null]) fq_X7_25 rfl dX7_init_49 g47 (Nat.le_of_ble_eq_true rfl) rfl rfl rfl ?_
  have w49 := NW.set (q := f) (e := obj 7 [.int (zI (0)), .ref q7, .ref q15, .ref q23, .int (zI (0)), .ref q31, .ref q39, .int (zI (0)), .ref q47, .int (zI (0)), .null, .null, .null, .null]) w47 0 (by decide) rfl
  have g49 := NW.mem (q := f) (e := obj 7 [.int (zI (0)), .ref q7, .ref q15, .ref q23, .int (zI (0)), .ref q31, .ref q39, .int (zI (0)), .ref q47, .int (zI (0)), .null, .null, .null, .null]) w49 0 (by decide) rfl rfl
  refine EV.aload_n (i := 0) dX7_init_52 rfl rfl ?_
  refine EV.bipush dX7_init_53 (by decide) ?_
  refine EV.newI ac_int dX7_init_55 (N := 60) rfl (by decide) (by decide) (by decide) (fun q55 n55 => ?_)
  have w55 := NW.arr (e := (arI G 60 (fun _ => 0))) w49 (by decide) n55
  have g55 := NW.mem (q := f) (e := obj 7 [.int (zI (0)), .ref q7, .ref q15, .ref q23, .int (zI (0)), .ref q31, .ref q39, .int (zI (0)), .ref q47, .int (zI (0)), .null, .null, .null, .null]) w55 0 (by decide) rfl rfl
  refine EV.putF (fs' := [.int (zI (0)), .ref q7, .ref q15, .ref q23, .int (zI (0)), .ref q31, .ref q39, .int (zI (0)), .ref q47, .int (zI (0)), .ref q55, .null, .null, .null]) fq_X7_28 rfl dX7_init_57 g55 (Nat.le_of_ble_eq_true rfl) rfl rfl rfl ?_
  have w57 := NW.set (q := f) (e := obj 7 [.int (zI (0)), .ref q7, .ref q15, .ref q23, .int (zI (0)), .ref q31, .ref q39, .int (zI (0)), .ref q47, .int (zI (0)), .ref q55, .null, .null, .null]) w55 0 (by decide) rfl
  have g57 := NW.mem (q := f) (e := obj 7 [.int (zI (0)), .ref q7, .ref q15, .ref q23, .int (zI (0)), .ref q31, .ref q39, .int (zI (0)), .ref q47, .int (zI (0)), .ref q55, .null, .null, .null]) w57 0 (by decide) rfl rfl
  refine EV.aload_n (i := 0) dX7_init_60 rfl rfl ?_
  refine EV.bipush dX7_init_61 (by decide) ?_
  refine EV.newI ac_int dX7_init_63 (N := 7) rfl (by decide) (by decide) (by decide) (fun q63 n63 => ?_)
  have w63 := NW.arr (e := (arI G 7 (fun _ => 0))) w57 (by decide) n63
  have g63 := NW.mem (q := f) (e := obj 7 [.int (zI (0)), .ref q7, .ref q15, .ref q23, .int (zI (0)), .ref q31, .ref q39, .int (zI (0)), .ref q47, .int (zI (0)), .ref q55, .null, .null, .null]) w63 0 (by decide) rfl rfl
  refine EV.putF (fs' := [.int (zI (0)), .ref q7, .ref q15, .ref q23, .int (zI (0)), .ref q31, .ref q39, .int (zI (0)), .ref q47, .int (zI (0)), .ref q55, .ref q63, .null, .null]) fq_X7_31 rfl dX7_init_65 g63 (Nat.le_of_ble_eq_true rfl) rfl rfl rfl ?_
  have w65 := NW.set (q := f) (e := obj 7 [.int (zI (0)), .ref q7, .ref q15, .ref q23, .int (zI (0)), .ref q31, .ref q39, .int (zI (0)), .ref q47, .int (zI (0)), .ref q55, .ref q63, .null, .null]) w63 0 (by decide) rfl
  have g65 := NW.mem (q := f) (e := obj 7 [.int (zI (0)), .ref q7, .ref q15, .ref q23, .int (zI (0)), .ref q31, .ref q39, .int (zI (0)), .ref q47, .int (zI (0)), .ref q55, .ref q63, .null, .null]) w65 0 (by decide) rfl rfl
  refine EV.aload_n (i := 0) dX7_init_68 rfl rfl ?_
  refine EV.sipush dX7_init_69 (by decide) ?_
  refine EV.newI ac_int dX7_init_72 (N := 200) rfl (by decide) (by decide) (by decide) (fun q72 n72 => ?_)
  have w72 := NW.arr (e := (arI G 200 (fun _ => 0))) w65 (by decide) n72
  have g72 := NW.mem (q := f) (e := obj 7 [.int (zI (0)), .ref q7, .ref q15, .ref q23, .int (zI (0)), .ref q31, .ref q39, .int (zI (0)), .ref q47, .int (zI (0)), .ref q55, .ref q63, .null, .null]) w72 0 (by decide) rfl rfl
  refine EV.putF (fs' := [.int (zI (0)), .ref q7, .ref q15, .ref q23, .int (zI (0)), .ref q31, .ref q39, .int (zI (0)), .ref q47, .int (zI (0)), .ref q55, .ref q63, .ref q72, .null]) fq_X7_34 rfl dX7_init_74 g72 (Nat.le_of_ble_eq_true rfl) rfl rfl rfl ?_
  have w74 := NW.set (q := f) (e := obj 7 [.int (zI (0)), .ref q7, .ref q15, .ref q23, .int (zI (0)), .ref q31, .ref q39, .int (zI (0)), .ref q47, .int (zI (0)), .ref q55, .ref q63, .ref q72, .null]) w72 0 (by decide) rfl
  have g74 := NW.mem (q := f) (e := obj 7 [.int (zI (0)), .ref q7, .ref q15, .ref q23, .int (zI (0)), .ref q31, .ref q39, .int (zI (0)), .ref q47, .int (zI (0)), .ref q55, .ref q63, .ref q72, .null]) w74 0 (by decide) rfl rfl
  refine EV.aload_n (i := 0) dX7_init_77 rfl rfl ?_
  refine EV.iconst dX7_init_78 ?_
  refine EV.newZ ac_boolean dX7_init_79 (N := 2) rfl (by decide) (by decide) (by decide) (fun q79 n79 => ?_)
  have w79 := NW.arr (e := (arZ G 2 (fun _ => 0))) w74 (by decide) n79
  have g79 := NW.mem (q := f) (e := obj 7 [.int (zI (0)), .ref q7, .ref q15, .ref q23, .int (zI (0)), .ref q31, .ref q39, .int (zI (0)), .ref q47, .int (zI (0)), .ref q55, .ref q63, .ref q72, .null]) w79 0 (by decide) rfl rfl
  refine EV.putF (fs' := [.int (zI (0)), .ref q7, .ref q15, .ref q23, .int (zI (0)), .ref q31, .ref q39, .int (zI (0)), .ref q47, .int (zI (0)), .ref q55, .ref q63, .ref q72, .ref q79]) fq_X7_37 rfl dX7_init_81 g79 (Nat.le_of_ble_eq_true rfl) rfl rfl rfl ?_
  have w81 := NW.set (q := f) (e := obj 7 [.int (zI (0)), .ref q7, .ref q15, .ref q23, .int (zI (0)), .ref q31, .ref q39, .int (zI (0)), .ref q47, .int (zI (0)), .ref q55, .ref q63, .ref q72, .ref q79]) w79 0 (by decide) rfl
  have g81 := NW.mem (q := f) (e := obj 7 [.int (zI (0)), .ref q7, .ref q15, .ref q23, .int (zI (0)), .ref q31, .ref q39, .int (zI (0)), .ref q47, .int (zI (0)), .ref q55, .ref q63, .ref q72, .ref q79]) w81 0 (by decide) rfl rfl
  refine EV.aload_n (i := 0) dX7_init_84 rfl rfl ?_
  refine EV.iconst dX7_init_85 ?_
  refine EV.putf (fs' := [.int (zI (0)), .ref q7, .ref q15, .ref q23, .int (zI (0)), .ref q31, .ref q39, .int (zI (0)), .ref q47, .int (zI (0)), .ref q55, .ref q63, .ref q72, .ref q79]) fp_X7_41 dX7_init_86 g81 (Nat.le_of_ble_eq_true rfl) rfl rfl rfl ?_
  have w86 := NW.set (q := f) (e := obj 7 [.int (zI (0)), .ref q7, .ref q15, .ref q23, .int (zI (0)), .ref q31, .ref q39, .int (zI (0)), .ref q47, .int (zI (0)), .ref q55, .ref q63, .ref q72, .ref q79]) w81 0 (by decide) rfl
  have g86 := NW.mem (q := f) (e := obj 7 [.int (zI (0)), .ref q7, .ref q15, .ref q23, .int (zI (0)), .ref q31, .ref q39, .int (zI (0)), .ref q47, .int (zI (0)), .ref q55, .ref q63, .ref q72, .ref q79]) w86 0 (by decide) rfl rfl
  refine EV.vret rfl dX7_init_89 ?_
  refine ⟨rfl, _, rfl, NW.cg w86 (fun j h1 h2 => ?_)⟩
  rcases (show j = 0 ∨ j = 1 ∨ j = 2 ∨ j = 3 ∨ j = 4 ∨ j = 5 ∨ j = 6 ∨ j = 7 ∨ j = 8 ∨ j = 9 ∨ j = 10 by omega) with rfl | rfl | rfl | rfl | rfl | rfl | rfl | rfl | rfl | rfl | rfl <;> first | rfl | (show arI G 12 (fun _ => 0) = arI G 12 (sgOf X0q.2.2.1); congr 1; funext j; unfold sgOf; split <;> rfl)
set_option maxHeartbeats 4000000 in
set_option maxRecDepth 20000 in
theorem c_X1_init (d : Nat) {h : Hp} {f : Nat} (hf : h f = some (obj 1 [.null, .null, .null])) : CT G l mX1_init (d + 3) 11 103 [.ref f] h (fun o h' => o = none ∧ ∃ a : Nat → Nat, a 0 = f ∧ NW h h' 0 12 a (cL G a L0)) := by
  refine CT.of (by decide) (Nat.le_of_ble_eq_true rfl) (List.forall_mem_cons.mpr ⟨rfl, fun _ h => absurd h List.not_mem_nil⟩) ?_
  refine EV.lvs (lv' := [some (.ref f)]) rfl ?_
  have w0 := NW.start 0 hf
  refine EV.aload_n (i := 0) dX1_init_0 rfl rfl ?_
  refine EV.objInit ml_X1_1 im_OBJ cd_OBJ dX1_init_1 (Nat.le_of_ble_eq_true rfl) ?_
  refine EV.aload_n (i := 0) dX1_init_4 rfl rfl ?_
  refine EV.new (fs := [.int (zI (0)), .null, .null, .null, .null]) fn_X1_7 dX1_init_5 df_X0 (by decide) (by decide) (fun q5 n5 => ?_)
  refine EV.dup dX1_init_8 rfl ?_
  refine EV.callIN (M' := mX0_init) (as := []) (rest := [.ref q5, .ref f]) rfl rfl (host := RX6) (by decide) im_X0_init co_X0_init dX1_init_9 (c_X0_init (d + 0) (hset_s _ _ _)) rfl rfl (Nat.le_of_ble_eq_true rfl) (Nat.le_of_ble_eq_true rfl) (Nat.le_of_ble_eq_true rfl) (fun v9 h9 q9 => ?_)
  obtain ⟨rfl, a9, ha9, b9⟩ := q9
  refine EV.sts (st' := [.ref q5, .ref f]) rfl ?_
  have w9 := NW.blk w0 n5 b9 ha9 (by decide)
  have g9 := NW.mem (q := f) (e := obj 1 [.null, .null, .null]) w9 0 (by decide) rfl rfl
  refine EV.putF (fs' := [.ref q5, .null, .null]) fq_X1_10 rfl dX1_init_12 g9 (Nat.le_of_ble_eq_true rfl) rfl rfl rfl ?_
  have w12 := NW.set (q := f) (e := obj 1 [.ref q5, .null, .null]) w9 0 (by decide) rfl
  have g12 := NW.mem (q := f) (e := obj 1 [.ref q5, .null, .null]) w12 0 (by decide) rfl rfl
  refine EV.aload_n (i := 0) dX1_init_15 rfl rfl ?_
  refine EV.new (fs := [.int (zI (0)), .null, .null]) fn_X1_16 dX1_init_16 df_X4 (by decide) (by decide) (fun q16 n16 => ?_)
  refine EV.dup dX1_init_19 rfl ?_
  refine EV.callIN (M' := mX4_init) (as := []) (rest := [.ref q16, .ref f]) rfl rfl (host := RX6) (by decide) im_X4_init co_X4_init dX1_init_20 (c_X4_init (d + 0) (hset_s _ _ _)) rfl rfl (Nat.le_of_ble_eq_true rfl) (Nat.le_of_ble_eq_true rfl) (Nat.le_of_ble_eq_true rfl) (fun v20 h20 q20 => ?_)
  obtain ⟨rfl, a20, ha20, b20⟩ := q20
  refine EV.sts (st' := [.ref q16, .ref f]) rfl ?_
  have w20 := NW.blk w12 n16 b20 ha20 (by decide)
  have g20 := NW.mem (q := f) (e := obj 1 [.ref q5, .null, .null]) w20 0 (by decide) rfl rfl
  refine EV.putF (fs' := [.ref q5, .ref q16, .null]) fq_X1_19 rfl dX1_init_23 g20 (Nat.le_of_ble_eq_true rfl) rfl rfl rfl ?_
  have w23 := NW.set (q := f) (e := obj 1 [.ref q5, .ref q16, .null]) w20 0 (by decide) rfl
  have g23 := NW.mem (q := f) (e := obj 1 [.ref q5, .ref q16, .null]) w23 0 (by decide) rfl rfl
  refine EV.aload_n (i := 0) dX1_init_26 rfl rfl ?_
  refine EV.new (fs := [.int (zI (0)), .null, .null]) fn_X1_23 dX1_init_27 df_X5 (by decide) (by decide) (fun q27 n27 => ?_)
  refine EV.dup dX1_init_30 rfl ?_
  refine EV.callIN (M' := mX5_init) (as := []) (rest := [.ref q27, .ref f]) rfl rfl (host := RX6) (by decide) im_X5_init co_X5_init dX1_init_31 (c_X5_init (d + 0) (hset_s _ _ _)) rfl rfl (Nat.le_of_ble_eq_true rfl) (Nat.le_of_ble_eq_true rfl) (Nat.le_of_ble_eq_true rfl) (fun v31 h31 q31 => ?_)
  obtain ⟨rfl, a31, ha31, b31⟩ := q31
  refine EV.sts (st' := [.ref q27, .ref f]) rfl ?_
  have w31 := NW.blk w23 n27 b31 ha31 (by decide)
  have g31 := NW.mem (q := f) (e := obj 1 [.ref q5, .ref q16, .null]) w31 0 (by decide) rfl rfl
  refine EV.putF (fs' := [.ref q5, .ref q16, .ref q27]) fq_X1_26 rfl dX1_init_34 g31 (Nat.le_of_ble_eq_true rfl) rfl rfl rfl ?_
  have w34 := NW.set (q := f) (e := obj 1 [.ref q5, .ref q16, .ref q27]) w31 0 (by decide) rfl
  have g34 := NW.mem (q := f) (e := obj 1 [.ref q5, .ref q16, .ref q27]) w34 0 (by decide) rfl rfl
  refine EV.vret rfl dX1_init_37 ?_
  refine ⟨rfl, _, rfl, NW.cg w34 (fun j h1 h2 => ?_)⟩
  rcases (show j = 0 ∨ j = 1 ∨ j = 2 ∨ j = 3 ∨ j = 4 ∨ j = 5 ∨ j = 6 ∨ j = 7 ∨ j = 8 ∨ j = 9 ∨ j = 10 ∨ j = 11 by omega) with rfl | rfl | rfl | rfl | rfl | rfl | rfl | rfl | rfl | rfl | rfl | rfl <;> first | rfl | (show obj 1 [.ref q5, .ref q16, .ref q27] = obj 1 [.ref (a9 1), .ref (a20 6), .ref (a31 9)]; rw [ha9, ha20, ha31])
set_option maxHeartbeats 4000000 in
set_option maxRecDepth 20000 in
theorem c_X6_init (d : Nat) {h : Hp} {f : Nat} (hf : h f = some (obj 6 [.null, .null, .null, .null])) : CT G l mX6_init (d + 4) 21 237 [.ref f] h (fun o h' => o = none ∧ ∃ a : Nat → Nat, a 11 = f ∧ NW h h' 11 33 a (cell G a ((0, fun _ => 0), L0, O0, (fun _ => none), (fun _ => L0)) X0q)) := by
  refine CT.of (by decide) (Nat.le_of_ble_eq_true rfl) (List.forall_mem_cons.mpr ⟨rfl, fun _ h => absurd h List.not_mem_nil⟩) ?_
  refine EV.lvs (lv' := [some (.ref f)]) rfl ?_
  have w0 := NW.start 11 hf
  refine EV.aload_n (i := 0) dX6_init_0 rfl rfl ?_
  refine EV.objInit ml_X6_1 im_OBJ cd_OBJ dX6_init_1 (Nat.le_of_ble_eq_true rfl) ?_
  refine EV.aload_n (i := 0) dX6_init_4 rfl rfl ?_
  refine EV.new (fs := [.null, .int (zI (0))]) fn_X6_7 dX6_init_5 df_X3 (by decide) (by decide) (fun q5 n5 => ?_)
  refine EV.dup dX6_init_8 rfl ?_
  refine EV.callIN (M' := mX3_init) (as := []) (rest := [.ref q5, .ref f]) rfl rfl (host := RX6) (by decide) im_X3_init co_X3_init dX6_init_9 (c_X3_init (d + 1) (hset_s _ _ _)) rfl rfl (Nat.le_of_ble_eq_true rfl) (Nat.le_of_ble_eq_true rfl) (Nat.le_of_ble_eq_true rfl) (fun v9 h9 q9 => ?_)
  obtain ⟨rfl, a9, ha9, b9⟩ := q9
  refine EV.sts (st' := [.ref q5, .ref f]) rfl ?_
  have w9 := NW.blk w0 n5 b9 ha9 (by decide)
  have g9 := NW.mem (q := f) (e := obj 6 [.null, .null, .null, .null]) w9 11 (by decide) rfl rfl
  refine EV.putF (fs' := [.ref q5, .null, .null, .null]) fq_X6_10 rfl dX6_init_12 g9 (Nat.le_of_ble_eq_true rfl) rfl rfl rfl ?_
  have w12 := NW.set (q := f) (e := obj 6 [.ref q5, .null, .null, .null]) w9 11 (by decide) rfl
  have g12 := NW.mem (q := f) (e := obj 6 [.ref q5, .null, .null, .null]) w12 11 (by decide) rfl rfl
  refine EV.aload_n (i := 0) dX6_init_15 rfl rfl ?_
  refine EV.new (fs := [.null, .null, .null]) fn_X6_16 dX6_init_16 df_X1 (by decide) (by decide) (fun q16 n16 => ?_)
  refine EV.dup dX6_init_19 rfl ?_
  refine EV.callIN (M' := mX1_init) (as := []) (rest := [.ref q16, .ref f]) rfl rfl (host := RX6) (by decide) im_X1_init co_X1_init dX6_init_20 (c_X1_init (d + 0) (hset_s _ _ _)) rfl rfl (Nat.le_of_ble_eq_true rfl) (Nat.le_of_ble_eq_true rfl) (Nat.le_of_ble_eq_true rfl) (fun v20 h20 q20 => ?_)
  obtain ⟨rfl, a20, ha20, b20⟩ := q20
  refine EV.sts (st' := [.ref q16, .ref f]) rfl ?_
  have b20 := NW.shift (k := 14) b20
  have w20 := NW.blk w12 n16 b20 ha20 (by decide)
  have g20 := NW.mem (q := f) (e := obj 6 [.ref q5, .null, .null, .null]) w20 11 (by decide) rfl rfl
  refine EV.putF (fs' := [.ref q5, .ref q16, .null, .null]) fq_X6_19 rfl dX6_init_23 g20 (Nat.le_of_ble_eq_true rfl) rfl rfl rfl ?_
  have w23 := NW.set (q := f) (e := obj 6 [.ref q5, .ref q16, .null, .null]) w20 11 (by decide) rfl
  have g23 := NW.mem (q := f) (e := obj 6 [.ref q5, .ref q16, .null, .null]) w23 11 (by decide) rfl rfl
  refine EV.aload_n (i := 0) dX6_init_26 rfl rfl ?_
  refine EV.iconst dX6_init_27 ?_
  refine EV.newL cl_X6_16 dX6_init_28 (N := 2) rfl (by decide) (by decide) (by decide) (fun q28 n28 => ?_)
  have w28 := NW.arr (e := (arL G 2 (fun _ => none))) w23 (by decide) n28
  have g28 := NW.mem (q := f) (e := obj 6 [.ref q5, .ref q16, .null, .null]) w28 11 (by decide) rfl rfl
  refine EV.putF (fs' := [.ref q5, .ref q16, .ref q28, .null]) fq_X6_23 rfl dX6_init_31 g28 (Nat.le_of_ble_eq_true rfl) rfl rfl rfl ?_
  have w31 := NW.set (q := f) (e := obj 6 [.ref q5, .ref q16, .ref q28, .null]) w28 11 (by decide) rfl
  have g31 := NW.mem (q := f) (e := obj 6 [.ref q5, .ref q16, .ref q28, .null]) w31 11 (by decide) rfl rfl
  refine EV.aload_n (i := 0) dX6_init_34 rfl rfl ?_
  refine EV.new (fs := [.int (zI (0)), .int (zI (0)), .null, .null, .null, .null, .null]) fn_X6_27 dX6_init_35 df_X2 (by decide) (by decide) (fun q35 n35 => ?_)
  refine EV.dup dX6_init_38 rfl ?_
  refine EV.callIN (M' := mX2_init) (as := []) (rest := [.ref q35, .ref f]) rfl rfl (host := RX6) (by decide) im_X2_init co_X2_init dX6_init_39 (c_X2_init (d + 1) (hset_s _ _ _)) rfl rfl (Nat.le_of_ble_eq_true rfl) (Nat.le_of_ble_eq_true rfl) (Nat.le_of_ble_eq_true rfl) (fun v39 h39 q39 => ?_)
  obtain ⟨rfl, a39, ha39, b39⟩ := q39
  refine EV.sts (st' := [.ref q35, .ref f]) rfl ?_
  have w39 := NW.blk w31 n35 b39 ha39 (by decide)
  have g39 := NW.mem (q := f) (e := obj 6 [.ref q5, .ref q16, .ref q28, .null]) w39 11 (by decide) rfl rfl
  refine EV.putF (fs' := [.ref q5, .ref q16, .ref q28, .ref q35]) fq_X6_30 rfl dX6_init_42 g39 (Nat.le_of_ble_eq_true rfl) rfl rfl rfl ?_
  have w42 := NW.set (q := f) (e := obj 6 [.ref q5, .ref q16, .ref q28, .ref q35]) w39 11 (by decide) rfl
  have g42 := NW.mem (q := f) (e := obj 6 [.ref q5, .ref q16, .ref q28, .ref q35]) w42 11 (by decide) rfl rfl
  refine EV.vret rfl dX6_init_45 ?_
  refine ⟨rfl, _, rfl, NW.cg w42 (fun j h1 h2 => ?_)⟩
  rcases (show j = 11 ∨ j = 12 ∨ j = 13 ∨ j = 14 ∨ j = 15 ∨ j = 16 ∨ j = 17 ∨ j = 18 ∨ j = 19 ∨ j = 20 ∨ j = 21 ∨ j = 22 ∨ j = 23 ∨ j = 24 ∨ j = 25 ∨ j = 26 ∨ j = 27 ∨ j = 28 ∨ j = 29 ∨ j = 30 ∨ j = 31 ∨ j = 32 by omega) with rfl | rfl | rfl | rfl | rfl | rfl | rfl | rfl | rfl | rfl | rfl | rfl | rfl | rfl | rfl | rfl | rfl | rfl | rfl | rfl | rfl | rfl <;> first | rfl | (show obj 6 [.ref q5, .ref q16, .ref q28, .ref q35] = obj 6 [.ref (a9 12), .ref (a20 0), .ref q28, .ref (a39 27)]; rw [ha9, ha20, ha39])
end
