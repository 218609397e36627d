/-! ===== what the calls keep ===== -/
theorem WFK_0 (g : Nat → Int) : WFK (0, g) := ⟨Nat.zero_le _, fun i hi => absurd hi (Nat.not_lt_zero _)⟩
theorem WFT_0 (q : (Nat → Int) × (Nat → Int)) : WFT (0, q) := ⟨Nat.zero_le _, fun i hi => absurd hi (Nat.not_lt_zero _)⟩
theorem sayK_W {K : PD} {z : Int} (h : WFK K) : WFK (sayK K z) := by
  unfold sayK
  split
  · rename_i h1
    split
    · rename_i h2
      have hz := of_rg h1
      refine ⟨by show K.1 + 1 ≤ 60; omega, fun i hi => ?_⟩
      have hi' : i < K.1 + 1 := hi
      show 33 ≤ uI K.2 K.1 z i ∧ uI K.2 K.1 z i ≤ 126
      by_cases e : i = K.1
      · rw [e, uI_s]; omega
      · rw [uI_n _ _ e]; exact h.2 i (by omega)
    · exact h
  · exact h
theorem planK_W {K : PD} (h : WFK K) : WFK (planK K) := by
  unfold planK
  split
  · exact WFK_0 _
  · exact h
theorem planP_W {K : PD} {P : PL} (h : WFP P) : WFP (planP K P) := by
  unfold planP
  split
  · rename_i h1; exact rdS_WFP h1
  · exact h
theorem bornK_W {K : PD} {z b : Int} (h : WFK K) : WFK (if bornD K z b then (0, K.2) else K) := by
  split
  · exact WFK_0 _
  · exact h
theorem bornD_F {F : FK} {K : PD} {z b : Int} (h : WF F) : WF (if bornD K z b then bornF F z.toNat b K else F) := by
  by_cases e : bornD K z b = true
  · rw [if_pos e]
    unfold bornD at e
    rw [Bool.and_eq_true, Bool.and_eq_true] at e
    have h1 := of_rg e.1
    have h2 := of_rg e.2.1
    exact bornF_W h (by omega) h2 (of_decide_eq_true e.2.2)
  · rw [if_neg e]; exact h
theorem exF_W {F : FK} {z : Int} (h : WF F) : WF (exF F z) := by
  unfold exF
  split
  · exact ⟨clr_lt h.1, fun p hp hb => h.2 p hp (clr_bit hb)⟩
  · exact h
theorem seenT_W {T : ST} {t s : Int} (h : WFT T) : WFT (seenT T t s) := by
  unfold seenT
  split
  · rename_i h1
    rw [Bool.and_eq_true] at h1
    have ht := of_rg h1.1
    have hs := of_rg h1.2
    split
    · rename_i h2
      refine ⟨by show T.1 + 1 ≤ 6; omega, fun i hi => ?_⟩
      have hi' : i < T.1 + 1 := hi
      show (0 ≤ uI T.2.1 T.1 t i ∧ uI T.2.1 T.1 t i ≤ 9999) ∧ (uI T.2.2 T.1 s i = 0 ∨ uI T.2.2 T.1 s i = 1)
      by_cases e : i = T.1
      · rw [e, uI_s, uI_s]; omega
      · rw [uI_n _ _ e, uI_n _ _ e]; exact h.2 i (by omega)
    · exact h
  · exact h
def WQ (q : FK × PL × ST) : Prop := WF q.1 ∧ WFP q.2.1 ∧ WFT q.2.2
def WKq (kq : Nat → Option (FK × PL × ST)) : Prop := ∀ n q, kq n = some q → WQ q
theorem imgK_W {kq : Nat → Option (FK × PL × ST)} {q : FK × PL × ST} {z : Int} (h : WKq kq) (hq : WQ q) : WKq (imgK kq q z) := fun n q' hn => by
  unfold imgK at hn
  split at hn
  · simp only at hn
    split at hn
    · cases hn; exact hq
    · exact h n q' hn
  · exact h n q' hn
theorem restL_W {kq : Nat → Option (FK × PL × ST)} {q : FK × PL × ST} {z : Int} (h : WKq kq) (hq : WQ q) : WQ (restL kq q z) := by
  unfold restL
  split
  · split
    · rename_i q' he; exact h _ _ he
    · exact hq
  · exact hq
/-- both objects, at x and m -/
def SYS (G : GG) (ax am : Nat) (h : Hp) : Prop := ∃ (A : Nat → Nat) (N : Nat) (K : PD) (F : FK) (P : PL) (T : ST) (V : Nat → Int) (O : MO) (im : Nat → Option Nat) (IL : Nat → LQ) (la ma ik : Nat → Int),
  A 11 = ax ∧ A 0 = am ∧ inA A N ∧ WFK K ∧ WF F ∧ WFP P ∧ WFT T ∧ WI N im ∧ kqAt ma ik (kp im IL) ∧ WKq (kp im IL) ∧ h = HP G (fun _ => none) A N (K, (F, P, T, V), O, im, IL) (F, P, T, K, la, ma, ik)
theorem hX6 {G : GG} {h : Hp} {A : Nat → Nat} {N : Nat} (hA : inA A N) (Y : CY) (X : MX) : HP G h A N Y X (A 11) = some (obj 6 [.ref (A 12), .ref (A 14), .ref (A 26), .ref (A 27)]) := hGet hA Y X 11 (by decide)
theorem hX7 {G : GG} {h : Hp} {A : Nat → Nat} {N : Nat} (hA : inA A N) (Y : CY) (X : MX) : HP G h A N Y X (A 0) = some (obj 7 [.int (zI (X.1.1 : Int)), .ref (A 1), .ref (A 2), .ref (A 3), .int (zI (X.2.1.1 : Int)), .ref (A 4), .ref (A 5), .int (zI (X.2.2.1.1 : Int)), .ref (A 6), .int (zI (X.2.2.2.1.1 : Int)), .ref (A 7), .ref (A 8), .ref (A 9), .ref (A 10)]) := hGet hA Y X 0 (by decide)
def Y0q : CY := ((0, fun _ => 0), L0, O0, (fun _ => none), (fun _ => L0))
/-- the world at the start: the class's cells a 11 .., then the reference's b 0 .. -/
theorem SYS_0 {G : GG} {h1 h2 : Hp} {q0 q1 : Nat} {e0 e1 : va_E} {a b : Nat → Nat} (ha : a 11 = q0) (hb : b 0 = q1) (w : NW (hset (fun _ => none) q0 e0) h1 11 33 a (cell G a Y0q X0q)) (hq : h1 q1 = none) (v : NW (hset h1 q1 e1) h2 0 11 b (cMx G b X0q)) : SYS G q0 q1 h2 := by
  have hn : ∀ j, j < 11 → h1 (b j) = none := fun j hj => by
    by_cases e : j = 0
    · rw [e, hb]; exact hq
    · have h3 := v.2.1 j (by omega) hj
      have h4 : b j ≠ q1 := fun z => e (v.1 j 0 (by omega) hj (by omega) (by omega) (by rw [z, hb]))
      rw [hset_n _ _ h4] at h3
      exact h3
  have hab : ∀ i j, 11 ≤ i → i < 33 → j < 11 → a i ≠ b j := fun i j h3 h4 h5 z => by
    have := w.2.2.1 i h3 h4
    rw [z, hn j h5] at this
    exact absurd this (by simp)
  let A : Nat → Nat := fun i => if i < 11 then b i else a i
  have hA1 : ∀ i, i < 11 → A i = b i := fun i hi => if_pos hi
  have hA2 : ∀ i, 11 ≤ i → A i = a i := fun i hi => if_neg (by omega)
  have hA : inA A 33 := ⟨Nat.le_refl _, fun i j hi hj z => by
    by_cases c : i < 11
    · by_cases d : j < 11
      · rw [hA1 i c, hA1 j d] at z; exact v.1 i j (by omega) c (by omega) d z
      · rw [hA1 i c, hA2 j (by omega)] at z; exact absurd z.symm (hab j i (by omega) hj c)
    · by_cases d : j < 11
      · rw [hA2 i (by omega), hA1 j d] at z; exact absurd z (hab i j (by omega) hi d)
      · rw [hA2 i (by omega), hA2 j (by omega)] at z; exact w.1 i j (by omega) hi (by omega) hj z⟩
  refine ⟨A, 33, (0, fun _ => 0), L0.1, L0.2.1, L0.2.2.1, L0.2.2.2, O0, (fun _ => none), (fun _ => L0), (fun _ => 0), (fun _ => 0), (fun _ => 0), (hA2 11 (by omega)).trans ha, (hA1 0 (by omega)).trans hb, hA, WFK_0 _, ⟨by decide, fun p hp hc => absurd hc (by simp [L0])⟩, ⟨by decide, fun w hw => absurd hw (Nat.not_lt_zero _)⟩, WFT_0 _, ⟨0, rfl, fun n k h => absurd h (by simp), fun n n' k h => absurd h (by simp)⟩, fun n hn => ⟨fun _ => rfl, fun q h => absurd h (by simp [kp])⟩, fun n q h => absurd h (by simp [kp]), ?_⟩
  refine put_ext hA (fun i hi => ?_) (fun q hq2 => ?_)
  · by_cases c : i < 11
    · rw [hA1 i c, v.2.2.1 i (by omega) c]
      congr 1
      rcases (show i = 0 ∨ i = 1 ∨ i = 2 ∨ i = 3 ∨ i = 4 ∨ i = 5 ∨ i = 6 ∨ i = 7 ∨ i = 8 ∨ i = 9 ∨ i = 10 by omega) with rfl | rfl | rfl | rfl | rfl | rfl | rfl | rfl | rfl | rfl | rfl <;> rfl
    · rw [hA2 i (by omega), v.2.2.2 (a i) (fun j _ h4 => hab i j (by omega) hi h4), hset_n _ _ (by rw [← hb]; exact hab i 0 (by omega) hi (by omega)), w.2.2.1 i (by omega) hi]
      congr 1
      rcases (show i = 11 ∨ i = 12 ∨ i = 13 ∨ i = 14 ∨ i = 15 ∨ i = 16 ∨ i = 17 ∨ i = 18 ∨ i = 19 ∨ i = 20 ∨ i = 21 ∨ i = 22 ∨ i = 23 ∨ i = 24 ∨ i = 25 ∨ i = 26 ∨ i = 27 ∨ i = 28 ∨ i = 29 ∨ i = 30 ∨ i = 31 ∨ i = 32 by omega) with rfl | rfl | rfl | rfl | rfl | rfl | rfl | rfl | rfl | rfl | rfl | rfl | rfl | rfl | rfl | rfl | rfl | rfl | rfl | rfl | rfl | rfl <;> rfl
  · rw [v.2.2.2 q (fun j _ h4 => by rw [← hA1 j h4]; exact hq2 j (by omega)), hset_n _ _ (by rw [← hb, ← hA1 0 (by omega)]; exact hq2 0 (by omega)), w.2.2.2 q (fun j h3 h4 => by rw [← hA2 j h3]; exact hq2 j h4), hset_n _ _ (by rw [← ha, ← hA2 11 (by omega)]; exact hq2 11 (by omega))]
