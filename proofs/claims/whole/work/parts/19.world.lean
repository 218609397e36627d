/-! ===== the whole world: one function of addresses, one of cells ===== -/
def inA (A : Nat → Nat) (N : Nat) : Prop := 33 ≤ N ∧ ∀ i j, i < N → j < N → A i = A j → i = j
def put (h : Hp) (A : Nat → Nat) (C : Nat → va_E) : Nat → Hp
  | 0 => h
  | n + 1 => hset (put h A C n) (A n) (C n)
def updC (C : Nat → va_E) (k : Nat) (e : va_E) : Nat → va_E := fun j => if j = k then e else C j
theorem put_out {h : Hp} {A : Nat → Nat} {C : Nat → va_E} : ∀ {n : Nat} {q : Nat}, (∀ i, i < n → q ≠ A i) → put h A C n q = h q
  | 0, _, _ => rfl
  | n + 1, q, hq => by
    unfold put
    rw [hset_n _ _ (hq n (by omega))]
    exact put_out (fun i hi => hq i (by omega))
theorem put_in {h : Hp} {A : Nat → Nat} {C : Nat → va_E} {N : Nat} (hA : ∀ i j, i < N → j < N → A i = A j → i = j) : ∀ {n : Nat}, n ≤ N → ∀ k, k < n → put h A C n (A k) = some (C k)
  | 0, _, k, hk => absurd hk (Nat.not_lt_zero _)
  | n + 1, hn, k, hk => by
    unfold put
    by_cases e : k = n
    · rw [e, hset_s]
    · rw [hset_n _ _ (fun z => e (hA k n (by omega) (by omega) z))]
      exact put_in hA (by omega) k (by omega)
theorem put_get {h : Hp} {A : Nat → Nat} {C : Nat → va_E} {N : Nat} (hA : inA A N) (k : Nat) (hk : k < N) : put h A C N (A k) = some (C k) := put_in hA.2 (Nat.le_refl _) k hk
theorem put_set {h : Hp} {A : Nat → Nat} {C : Nat → va_E} {N : Nat} (hA : inA A N) (k : Nat) (hk : k < N) (e : va_E) : hset (put h A C N) (A k) e = put h A (updC C k e) N := by
  funext q
  by_cases hq : ∃ i, i < N ∧ q = A i
  · obtain ⟨i, hi, rfl⟩ := hq
    rw [put_get hA i hi]
    by_cases hik : i = k
    · rw [hik, hset_s]; unfold updC; rw [if_pos rfl]
    · rw [hset_n _ _ (fun z => hik (hA.2 i k hi hk z)), put_get hA i hi]; unfold updC; rw [if_neg hik]
  · have h1 : ∀ i, i < N → q ≠ A i := fun i hi z => hq ⟨i, hi, z⟩
    rw [hset_n _ _ (h1 k hk), put_out h1, put_out h1]
theorem put_cg {h : Hp} {A A' : Nat → Nat} {C C' : Nat → va_E} : ∀ {n : Nat}, (∀ i, i < n → A i = A' i) → (∀ i, i < n → C i = C' i) → put h A C n = put h A' C' n
  | 0, _, _ => rfl
  | n + 1, hA, hC => by
    unfold put
    rw [put_cg (fun i hi => hA i (by omega)) (fun i hi => hC i (by omega)), hA n (by omega), hC n (by omega)]
/-- a land: people, plan, sights, votes -/
abbrev LQ : Type := FK × PL × ST × (Nat → Int)
/-- the class's month: works, most; people, counts, choices, tried, best -/
abbrev MO : Type := (Int × Int) × (Nat → Int) × (Nat → Int) × (Nat → Int) × (Nat → Int) × (Nat → Int)
/-- the class: pad, land, month, which block an image has, the blocks -/
abbrev CY : Type := PD × LQ × MO × (Nat → Option Nat) × (Nat → LQ)
/-- the reference: people, plan, sights, pad, later, image, kept -/
abbrev MX : Type := FK × PL × ST × PD × (Nat → Int) × (Nat → Int) × (Nat → Int)
def cL (G : GG) (a : Nat → Nat) (L : LQ) (j : Nat) : va_E := match j with
  | 0 => obj 1 [.ref (a 1), .ref (a 6), .ref (a 9)]
  | 1 => obj 0 [.int (zI (L.1.1 : Int)), .ref (a 2), .ref (a 3), .ref (a 4), .ref (a 5)]
  | 2 => arI G 6 L.1.2.1
  | 3 => arI G 6 L.1.2.2.1
  | 4 => arI G 48 L.1.2.2.2
  | 5 => arI G 8 L.2.2.2
  | 6 => obj 4 [.int (zI (L.2.1.1 : Int)), .ref (a 7), .ref (a 8)]
  | 7 => arI G 6 L.2.1.2.1
  | 8 => arI G 6 (nf L.2.1.2.2)
  | 9 => obj 5 [.int (zI (L.2.2.1.1 : Int)), .ref (a 10), .ref (a 11)]
  | 10 => arI G 6 L.2.2.1.2.1
  | _ => arI G 6 L.2.2.1.2.2
def imA (A : Nat → Nat) (im : Nat → Option Nat) : Nat → Option Nat := fun n => (im n).map (fun k => A (33 + 12 * k))
def cell (G : GG) (A : Nat → Nat) (Y : CY) (X : MX) (i : Nat) : va_E := match i with
  | 0 => obj 7 [.int (zI (X.1.1 : Int)), .ref (A 1), .ref (A 2), .ref (A 3), .int (zI (X.2.1.1 : Int)), .ref (A 4), .ref (A 5), .int (zI (X.2.2.1.1 : Int)), .ref (A 6), .int (zI (X.2.2.2.1.1 : Int)), .ref (A 7), .ref (A 8), .ref (A 9), .ref (A 10)]
  | 1 => arI G 48 X.1.2.2.2
  | 2 => arI G 6 X.1.2.2.1
  | 3 => arI G 6 X.1.2.1
  | 4 => arI G 6 X.2.1.2.1
  | 5 => arI G 6 (nf X.2.1.2.2)
  | 6 => arI G 12 (sgOf X.2.2.1)
  | 7 => arI G 60 X.2.2.2.1.2
  | 8 => arI G 7 X.2.2.2.2.1
  | 9 => arI G 200 X.2.2.2.2.2.1
  | 10 => arZ G 2 X.2.2.2.2.2.2
  | 11 => obj 6 [.ref (A 12), .ref (A 14), .ref (A 26), .ref (A 27)]
  | 12 => obj 3 [.ref (A 13), .int (zI (Y.1.1 : Int))]
  | 13 => arI G 60 Y.1.2
  | 14 => cL G (fun j => A (j + 14)) Y.2.1 0
  | 15 => cL G (fun j => A (j + 14)) Y.2.1 1
  | 16 => cL G (fun j => A (j + 14)) Y.2.1 2
  | 17 => cL G (fun j => A (j + 14)) Y.2.1 3
  | 18 => cL G (fun j => A (j + 14)) Y.2.1 4
  | 19 => cL G (fun j => A (j + 14)) Y.2.1 5
  | 20 => cL G (fun j => A (j + 14)) Y.2.1 6
  | 21 => cL G (fun j => A (j + 14)) Y.2.1 7
  | 22 => cL G (fun j => A (j + 14)) Y.2.1 8
  | 23 => cL G (fun j => A (j + 14)) Y.2.1 9
  | 24 => cL G (fun j => A (j + 14)) Y.2.1 10
  | 25 => cL G (fun j => A (j + 14)) Y.2.1 11
  | 26 => arL G 2 (imA A Y.2.2.2.1)
  | 27 => obj 2 [.int (zI Y.2.2.1.1.1), .int (zI Y.2.2.1.1.2), .ref (A 28), .ref (A 29), .ref (A 30), .ref (A 31), .ref (A 32)]
  | 28 => arI G 6 Y.2.2.1.2.1
  | 29 => arI G 6 Y.2.2.1.2.2.1
  | 30 => arI G 36 Y.2.2.1.2.2.2.1
  | 31 => arI G 6 Y.2.2.1.2.2.2.2.1
  | 32 => arI G 6 Y.2.2.1.2.2.2.2.2
  | k + 33 => cL G (fun j => A (j + (33 + 12 * (k / 12)))) (Y.2.2.2.2 (k / 12)) (k % 12)
def HP (G : GG) (h : Hp) (A : Nat → Nat) (N : Nat) (Y : CY) (X : MX) : Hp := put h A (cell G A Y X) N
theorem lt33 {P : Nat → Prop} (h0 : P 0) (h1 : P 1) (h2 : P 2) (h3 : P 3) (h4 : P 4) (h5 : P 5) (h6 : P 6) (h7 : P 7) (h8 : P 8) (h9 : P 9) (h10 : P 10) (h11 : P 11) (h12 : P 12) (h13 : P 13) (h14 : P 14) (h15 : P 15) (h16 : P 16) (h17 : P 17) (h18 : P 18) (h19 : P 19) (h20 : P 20) (h21 : P 21) (h22 : P 22) (h23 : P 23) (h24 : P 24) (h25 : P 25) (h26 : P 26) (h27 : P 27) (h28 : P 28) (h29 : P 29) (h30 : P 30) (h31 : P 31) (h32 : P 32) : ∀ i, i < 33 → P i := fun i hi => match i, hi with
  | 0, _ => h0
  | 1, _ => h1
  | 2, _ => h2
  | 3, _ => h3
  | 4, _ => h4
  | 5, _ => h5
  | 6, _ => h6
  | 7, _ => h7
  | 8, _ => h8
  | 9, _ => h9
  | 10, _ => h10
  | 11, _ => h11
  | 12, _ => h12
  | 13, _ => h13
  | 14, _ => h14
  | 15, _ => h15
  | 16, _ => h16
  | 17, _ => h17
  | 18, _ => h18
  | 19, _ => h19
  | 20, _ => h20
  | 21, _ => h21
  | 22, _ => h22
  | 23, _ => h23
  | 24, _ => h24
  | 25, _ => h25
  | 26, _ => h26
  | 27, _ => h27
  | 28, _ => h28
  | 29, _ => h29
  | 30, _ => h30
  | 31, _ => h31
  | 32, _ => h32
  | k + 33, hi => absurd hi (by omega)
theorem cell_ext {f g : Nat → va_E} (h : ∀ i, i < 33 → f i = g i) (h2 : ∀ i, f (i + 33) = g (i + 33)) : f = g := by
  funext i
  by_cases hi : i < 33
  · exact h i hi
  · rw [show i = (i - 33) + 33 by omega]; exact h2 _
section WLD
variable {G : GG} {h : Hp} {A : Nat → Nat} {N : Nat}
variable {K : PD} {F : FK} {P : PL} {T : ST} {V : Nat → Int} {O : MO} {im : Nat → Option Nat} {IL : Nat → LQ} {X : MX}
theorem wK1 (hA : inA A N) (n : Nat) : hset (HP G h A N (K, (F, P, T, V), O, im, IL) X) (A 12) (obj 3 [.ref (A 13), .int (zI (n : Int))]) = HP G h A N ((n, K.2), (F, P, T, V), O, im, IL) X := by
  have hN := hA.1
  unfold HP
  rw [put_set hA 12 (by omega)]
  congr 1
  exact cell_ext (lt33 rfl rfl rfl rfl rfl rfl rfl rfl rfl rfl rfl rfl rfl rfl rfl rfl rfl rfl rfl rfl rfl rfl rfl rfl rfl rfl rfl rfl rfl rfl rfl rfl rfl) (fun i => by show (if i + 33 = 12 then _ else _) = _; rw [if_neg (by omega)]; rfl)
theorem wK2 (hA : inA A N) (g : Nat → Int) : hset (HP G h A N (K, (F, P, T, V), O, im, IL) X) (A 13) (arI G 60 g) = HP G h A N ((K.1, g), (F, P, T, V), O, im, IL) X := by
  have hN := hA.1
  unfold HP
  rw [put_set hA 13 (by omega)]
  congr 1
  exact cell_ext (lt33 rfl rfl rfl rfl rfl rfl rfl rfl rfl rfl rfl rfl rfl rfl rfl rfl rfl rfl rfl rfl rfl rfl rfl rfl rfl rfl rfl rfl rfl rfl rfl rfl rfl) (fun i => by show (if i + 33 = 13 then _ else _) = _; rw [if_neg (by omega)]; rfl)
theorem wF1 (hA : inA A N) (n : Nat) : hset (HP G h A N (K, (F, P, T, V), O, im, IL) X) (A 15) (obj 0 [.int (zI (n : Int)), .ref (A 16), .ref (A 17), .ref (A 18), .ref (A 19)]) = HP G h A N (K, ((n, F.2), P, T, V), O, im, IL) X := by
  have hN := hA.1
  unfold HP
  rw [put_set hA 15 (by omega)]
  congr 1
  exact cell_ext (lt33 rfl rfl rfl rfl rfl rfl rfl rfl rfl rfl rfl rfl rfl rfl rfl rfl rfl rfl rfl rfl rfl rfl rfl rfl rfl rfl rfl rfl rfl rfl rfl rfl rfl) (fun i => by show (if i + 33 = 15 then _ else _) = _; rw [if_neg (by omega)]; rfl)
theorem wFB (hA : inA A N) (g : Nat → Int) : hset (HP G h A N (K, (F, P, T, V), O, im, IL) X) (A 16) (arI G 6 g) = HP G h A N (K, ((F.1, g, F.2.2), P, T, V), O, im, IL) X := by
  have hN := hA.1
  unfold HP
  rw [put_set hA 16 (by omega)]
  congr 1
  exact cell_ext (lt33 rfl rfl rfl rfl rfl rfl rfl rfl rfl rfl rfl rfl rfl rfl rfl rfl rfl rfl rfl rfl rfl rfl rfl rfl rfl rfl rfl rfl rfl rfl rfl rfl rfl) (fun i => by show (if i + 33 = 16 then _ else _) = _; rw [if_neg (by omega)]; rfl)
theorem wFS (hA : inA A N) (g : Nat → Int) : hset (HP G h A N (K, (F, P, T, V), O, im, IL) X) (A 17) (arI G 6 g) = HP G h A N (K, ((F.1, F.2.1, g, F.2.2.2), P, T, V), O, im, IL) X := by
  have hN := hA.1
  unfold HP
  rw [put_set hA 17 (by omega)]
  congr 1
  exact cell_ext (lt33 rfl rfl rfl rfl rfl rfl rfl rfl rfl rfl rfl rfl rfl rfl rfl rfl rfl rfl rfl rfl rfl rfl rfl rfl rfl rfl rfl rfl rfl rfl rfl rfl rfl) (fun i => by show (if i + 33 = 17 then _ else _) = _; rw [if_neg (by omega)]; rfl)
theorem wFO (hA : inA A N) (g : Nat → Int) : hset (HP G h A N (K, (F, P, T, V), O, im, IL) X) (A 18) (arI G 48 g) = HP G h A N (K, ((F.1, F.2.1, F.2.2.1, g), P, T, V), O, im, IL) X := by
  have hN := hA.1
  unfold HP
  rw [put_set hA 18 (by omega)]
  congr 1
  exact cell_ext (lt33 rfl rfl rfl rfl rfl rfl rfl rfl rfl rfl rfl rfl rfl rfl rfl rfl rfl rfl rfl rfl rfl rfl rfl rfl rfl rfl rfl rfl rfl rfl rfl rfl rfl) (fun i => by show (if i + 33 = 18 then _ else _) = _; rw [if_neg (by omega)]; rfl)
theorem wV (hA : inA A N) (g : Nat → Int) : hset (HP G h A N (K, (F, P, T, V), O, im, IL) X) (A 19) (arI G 8 g) = HP G h A N (K, (F, P, T, g), O, im, IL) X := by
  have hN := hA.1
  unfold HP
  rw [put_set hA 19 (by omega)]
  congr 1
  exact cell_ext (lt33 rfl rfl rfl rfl rfl rfl rfl rfl rfl rfl rfl rfl rfl rfl rfl rfl rfl rfl rfl rfl rfl rfl rfl rfl rfl rfl rfl rfl rfl rfl rfl rfl rfl) (fun i => by show (if i + 33 = 19 then _ else _) = _; rw [if_neg (by omega)]; rfl)
theorem wP1 (hA : inA A N) (n : Nat) : hset (HP G h A N (K, (F, P, T, V), O, im, IL) X) (A 20) (obj 4 [.int (zI (n : Int)), .ref (A 21), .ref (A 22)]) = HP G h A N (K, (F, (n, P.2), T, V), O, im, IL) X := by
  have hN := hA.1
  unfold HP
  rw [put_set hA 20 (by omega)]
  congr 1
  exact cell_ext (lt33 rfl rfl rfl rfl rfl rfl rfl rfl rfl rfl rfl rfl rfl rfl rfl rfl rfl rfl rfl rfl rfl rfl rfl rfl rfl rfl rfl rfl rfl rfl rfl rfl rfl) (fun i => by show (if i + 33 = 20 then _ else _) = _; rw [if_neg (by omega)]; rfl)
theorem wPd (hA : inA A N) (g : Nat → Int) : hset (HP G h A N (K, (F, P, T, V), O, im, IL) X) (A 21) (arI G 6 g) = HP G h A N (K, (F, (P.1, g, P.2.2), T, V), O, im, IL) X := by
  have hN := hA.1
  unfold HP
  rw [put_set hA 21 (by omega)]
  congr 1
  exact cell_ext (lt33 rfl rfl rfl rfl rfl rfl rfl rfl rfl rfl rfl rfl rfl rfl rfl rfl rfl rfl rfl rfl rfl rfl rfl rfl rfl rfl rfl rfl rfl rfl rfl rfl rfl) (fun i => by show (if i + 33 = 21 then _ else _) = _; rw [if_neg (by omega)]; rfl)
theorem wPw (hA : inA A N) (g : Nat → Nat) : hset (HP G h A N (K, (F, P, T, V), O, im, IL) X) (A 22) (arI G 6 (nf g)) = HP G h A N (K, (F, (P.1, P.2.1, g), T, V), O, im, IL) X := by
  have hN := hA.1
  unfold HP
  rw [put_set hA 22 (by omega)]
  congr 1
  exact cell_ext (lt33 rfl rfl rfl rfl rfl rfl rfl rfl rfl rfl rfl rfl rfl rfl rfl rfl rfl rfl rfl rfl rfl rfl rfl rfl rfl rfl rfl rfl rfl rfl rfl rfl rfl) (fun i => by show (if i + 33 = 22 then _ else _) = _; rw [if_neg (by omega)]; rfl)
theorem wT1 (hA : inA A N) (n : Nat) : hset (HP G h A N (K, (F, P, T, V), O, im, IL) X) (A 23) (obj 5 [.int (zI (n : Int)), .ref (A 24), .ref (A 25)]) = HP G h A N (K, (F, P, (n, T.2), V), O, im, IL) X := by
  have hN := hA.1
  unfold HP
  rw [put_set hA 23 (by omega)]
  congr 1
  exact cell_ext (lt33 rfl rfl rfl rfl rfl rfl rfl rfl rfl rfl rfl rfl rfl rfl rfl rfl rfl rfl rfl rfl rfl rfl rfl rfl rfl rfl rfl rfl rfl rfl rfl rfl rfl) (fun i => by show (if i + 33 = 23 then _ else _) = _; rw [if_neg (by omega)]; rfl)
theorem wTd (hA : inA A N) (g : Nat → Int) : hset (HP G h A N (K, (F, P, T, V), O, im, IL) X) (A 24) (arI G 6 g) = HP G h A N (K, (F, P, (T.1, g, T.2.2), V), O, im, IL) X := by
  have hN := hA.1
  unfold HP
  rw [put_set hA 24 (by omega)]
  congr 1
  exact cell_ext (lt33 rfl rfl rfl rfl rfl rfl rfl rfl rfl rfl rfl rfl rfl rfl rfl rfl rfl rfl rfl rfl rfl rfl rfl rfl rfl rfl rfl rfl rfl rfl rfl rfl rfl) (fun i => by show (if i + 33 = 24 then _ else _) = _; rw [if_neg (by omega)]; rfl)
theorem wTs (hA : inA A N) (g : Nat → Int) : hset (HP G h A N (K, (F, P, T, V), O, im, IL) X) (A 25) (arI G 6 g) = HP G h A N (K, (F, P, (T.1, T.2.1, g), V), O, im, IL) X := by
  have hN := hA.1
  unfold HP
  rw [put_set hA 25 (by omega)]
  congr 1
  exact cell_ext (lt33 rfl rfl rfl rfl rfl rfl rfl rfl rfl rfl rfl rfl rfl rfl rfl rfl rfl rfl rfl rfl rfl rfl rfl rfl rfl rfl rfl rfl rfl rfl rfl rfl rfl) (fun i => by show (if i + 33 = 25 then _ else _) = _; rw [if_neg (by omega)]; rfl)
theorem wO0 (hA : inA A N) (x y : Int) : hset (HP G h A N (K, (F, P, T, V), O, im, IL) X) (A 27) (obj 2 [.int (zI x), .int (zI y), .ref (A 28), .ref (A 29), .ref (A 30), .ref (A 31), .ref (A 32)]) = HP G h A N (K, (F, P, T, V), ((x, y), O.2), im, IL) X := by
  have hN := hA.1
  unfold HP
  rw [put_set hA 27 (by omega)]
  congr 1
  exact cell_ext (lt33 rfl rfl rfl rfl rfl rfl rfl rfl rfl rfl rfl rfl rfl rfl rfl rfl rfl rfl rfl rfl rfl rfl rfl rfl rfl rfl rfl rfl rfl rfl rfl rfl rfl) (fun i => by show (if i + 33 = 27 then _ else _) = _; rw [if_neg (by omega)]; rfl)
theorem wO1 (hA : inA A N) (g : Nat → Int) : hset (HP G h A N (K, (F, P, T, V), O, im, IL) X) (A 28) (arI G 6 g) = HP G h A N (K, (F, P, T, V), (O.1, g, O.2.2), im, IL) X := by
  have hN := hA.1
  unfold HP
  rw [put_set hA 28 (by omega)]
  congr 1
  exact cell_ext (lt33 rfl rfl rfl rfl rfl rfl rfl rfl rfl rfl rfl rfl rfl rfl rfl rfl rfl rfl rfl rfl rfl rfl rfl rfl rfl rfl rfl rfl rfl rfl rfl rfl rfl) (fun i => by show (if i + 33 = 28 then _ else _) = _; rw [if_neg (by omega)]; rfl)
theorem wO2 (hA : inA A N) (g : Nat → Int) : hset (HP G h A N (K, (F, P, T, V), O, im, IL) X) (A 29) (arI G 6 g) = HP G h A N (K, (F, P, T, V), (O.1, O.2.1, g, O.2.2.2), im, IL) X := by
  have hN := hA.1
  unfold HP
  rw [put_set hA 29 (by omega)]
  congr 1
  exact cell_ext (lt33 rfl rfl rfl rfl rfl rfl rfl rfl rfl rfl rfl rfl rfl rfl rfl rfl rfl rfl rfl rfl rfl rfl rfl rfl rfl rfl rfl rfl rfl rfl rfl rfl rfl) (fun i => by show (if i + 33 = 29 then _ else _) = _; rw [if_neg (by omega)]; rfl)
theorem wO3 (hA : inA A N) (g : Nat → Int) : hset (HP G h A N (K, (F, P, T, V), O, im, IL) X) (A 30) (arI G 36 g) = HP G h A N (K, (F, P, T, V), (O.1, O.2.1, O.2.2.1, g, O.2.2.2.2), im, IL) X := by
  have hN := hA.1
  unfold HP
  rw [put_set hA 30 (by omega)]
  congr 1
  exact cell_ext (lt33 rfl rfl rfl rfl rfl rfl rfl rfl rfl rfl rfl rfl rfl rfl rfl rfl rfl rfl rfl rfl rfl rfl rfl rfl rfl rfl rfl rfl rfl rfl rfl rfl rfl) (fun i => by show (if i + 33 = 30 then _ else _) = _; rw [if_neg (by omega)]; rfl)
theorem wO4 (hA : inA A N) (g : Nat → Int) : hset (HP G h A N (K, (F, P, T, V), O, im, IL) X) (A 31) (arI G 6 g) = HP G h A N (K, (F, P, T, V), (O.1, O.2.1, O.2.2.1, O.2.2.2.1, g, O.2.2.2.2.2), im, IL) X := by
  have hN := hA.1
  unfold HP
  rw [put_set hA 31 (by omega)]
  congr 1
  exact cell_ext (lt33 rfl rfl rfl rfl rfl rfl rfl rfl rfl rfl rfl rfl rfl rfl rfl rfl rfl rfl rfl rfl rfl rfl rfl rfl rfl rfl rfl rfl rfl rfl rfl rfl rfl) (fun i => by show (if i + 33 = 31 then _ else _) = _; rw [if_neg (by omega)]; rfl)
theorem wO5 (hA : inA A N) (g : Nat → Int) : hset (HP G h A N (K, (F, P, T, V), O, im, IL) X) (A 32) (arI G 6 g) = HP G h A N (K, (F, P, T, V), (O.1, O.2.1, O.2.2.1, O.2.2.2.1, O.2.2.2.2.1, g), im, IL) X := by
  have hN := hA.1
  unfold HP
  rw [put_set hA 32 (by omega)]
  congr 1
  exact cell_ext (lt33 rfl rfl rfl rfl rfl rfl rfl rfl rfl rfl rfl rfl rfl rfl rfl rfl rfl rfl rfl rfl rfl rfl rfl rfl rfl rfl rfl rfl rfl rfl rfl rfl rfl) (fun i => by show (if i + 33 = 32 then _ else _) = _; rw [if_neg (by omega)]; rfl)
variable {Y : CY} {la ma ik : Nat → Int}
theorem mX0 (hA : inA A N) (n w s c : Nat) : hset (HP G h A N Y (F, P, T, K, la, ma, ik)) (A 0) (obj 7 [.int (zI (n : Int)), .ref (A 1), .ref (A 2), .ref (A 3), .int (zI (w : Int)), .ref (A 4), .ref (A 5), .int (zI (s : Int)), .ref (A 6), .int (zI (c : Int)), .ref (A 7), .ref (A 8), .ref (A 9), .ref (A 10)]) = HP G h A N Y ((n, F.2), (w, P.2), (s, T.2), (c, K.2), la, ma, ik) := by
  have hN := hA.1
  unfold HP
  rw [put_set hA 0 (by omega)]
  congr 1
  exact cell_ext (lt33 rfl rfl rfl rfl rfl rfl rfl rfl rfl rfl rfl rfl rfl rfl rfl rfl rfl rfl rfl rfl rfl rfl rfl rfl rfl rfl rfl rfl rfl rfl rfl rfl rfl) (fun i => by show (if i + 33 = 0 then _ else _) = _; rw [if_neg (by omega)]; rfl)
theorem mFO (hA : inA A N) (g : Nat → Int) : hset (HP G h A N Y (F, P, T, K, la, ma, ik)) (A 1) (arI G 48 g) = HP G h A N Y ((F.1, F.2.1, F.2.2.1, g), P, T, K, la, ma, ik) := by
  have hN := hA.1
  unfold HP
  rw [put_set hA 1 (by omega)]
  congr 1
  exact cell_ext (lt33 rfl rfl rfl rfl rfl rfl rfl rfl rfl rfl rfl rfl rfl rfl rfl rfl rfl rfl rfl rfl rfl rfl rfl rfl rfl rfl rfl rfl rfl rfl rfl rfl rfl) (fun i => by show (if i + 33 = 1 then _ else _) = _; rw [if_neg (by omega)]; rfl)
theorem mFS (hA : inA A N) (g : Nat → Int) : hset (HP G h A N Y (F, P, T, K, la, ma, ik)) (A 2) (arI G 6 g) = HP G h A N Y ((F.1, F.2.1, g, F.2.2.2), P, T, K, la, ma, ik) := by
  have hN := hA.1
  unfold HP
  rw [put_set hA 2 (by omega)]
  congr 1
  exact cell_ext (lt33 rfl rfl rfl rfl rfl rfl rfl rfl rfl rfl rfl rfl rfl rfl rfl rfl rfl rfl rfl rfl rfl rfl rfl rfl rfl rfl rfl rfl rfl rfl rfl rfl rfl) (fun i => by show (if i + 33 = 2 then _ else _) = _; rw [if_neg (by omega)]; rfl)
theorem mFB (hA : inA A N) (g : Nat → Int) : hset (HP G h A N Y (F, P, T, K, la, ma, ik)) (A 3) (arI G 6 g) = HP G h A N Y ((F.1, g, F.2.2), P, T, K, la, ma, ik) := by
  have hN := hA.1
  unfold HP
  rw [put_set hA 3 (by omega)]
  congr 1
  exact cell_ext (lt33 rfl rfl rfl rfl rfl rfl rfl rfl rfl rfl rfl rfl rfl rfl rfl rfl rfl rfl rfl rfl rfl rfl rfl rfl rfl rfl rfl rfl rfl rfl rfl rfl rfl) (fun i => by show (if i + 33 = 3 then _ else _) = _; rw [if_neg (by omega)]; rfl)
theorem mPd (hA : inA A N) (g : Nat → Int) : hset (HP G h A N Y (F, P, T, K, la, ma, ik)) (A 4) (arI G 6 g) = HP G h A N Y (F, (P.1, g, P.2.2), T, K, la, ma, ik) := by
  have hN := hA.1
  unfold HP
  rw [put_set hA 4 (by omega)]
  congr 1
  exact cell_ext (lt33 rfl rfl rfl rfl rfl rfl rfl rfl rfl rfl rfl rfl rfl rfl rfl rfl rfl rfl rfl rfl rfl rfl rfl rfl rfl rfl rfl rfl rfl rfl rfl rfl rfl) (fun i => by show (if i + 33 = 4 then _ else _) = _; rw [if_neg (by omega)]; rfl)
theorem mPw (hA : inA A N) (g : Nat → Nat) : hset (HP G h A N Y (F, P, T, K, la, ma, ik)) (A 5) (arI G 6 (nf g)) = HP G h A N Y (F, (P.1, P.2.1, g), T, K, la, ma, ik) := by
  have hN := hA.1
  unfold HP
  rw [put_set hA 5 (by omega)]
  congr 1
  exact cell_ext (lt33 rfl rfl rfl rfl rfl rfl rfl rfl rfl rfl rfl rfl rfl rfl rfl rfl rfl rfl rfl rfl rfl rfl rfl rfl rfl rfl rfl rfl rfl rfl rfl rfl rfl) (fun i => by show (if i + 33 = 5 then _ else _) = _; rw [if_neg (by omega)]; rfl)
theorem mK2 (hA : inA A N) (g : Nat → Int) : hset (HP G h A N Y (F, P, T, K, la, ma, ik)) (A 7) (arI G 60 g) = HP G h A N Y (F, P, T, (K.1, g), la, ma, ik) := by
  have hN := hA.1
  unfold HP
  rw [put_set hA 7 (by omega)]
  congr 1
  exact cell_ext (lt33 rfl rfl rfl rfl rfl rfl rfl rfl rfl rfl rfl rfl rfl rfl rfl rfl rfl rfl rfl rfl rfl rfl rfl rfl rfl rfl rfl rfl rfl rfl rfl rfl rfl) (fun i => by show (if i + 33 = 7 then _ else _) = _; rw [if_neg (by omega)]; rfl)
theorem mla (hA : inA A N) (g : Nat → Int) : hset (HP G h A N Y (F, P, T, K, la, ma, ik)) (A 8) (arI G 7 g) = HP G h A N Y (F, P, T, K, g, ma, ik) := by
  have hN := hA.1
  unfold HP
  rw [put_set hA 8 (by omega)]
  congr 1
  exact cell_ext (lt33 rfl rfl rfl rfl rfl rfl rfl rfl rfl rfl rfl rfl rfl rfl rfl rfl rfl rfl rfl rfl rfl rfl rfl rfl rfl rfl rfl rfl rfl rfl rfl rfl rfl) (fun i => by show (if i + 33 = 8 then _ else _) = _; rw [if_neg (by omega)]; rfl)
theorem mma (hA : inA A N) (g : Nat → Int) : hset (HP G h A N Y (F, P, T, K, la, ma, ik)) (A 9) (arI G 200 g) = HP G h A N Y (F, P, T, K, la, g, ik) := by
  have hN := hA.1
  unfold HP
  rw [put_set hA 9 (by omega)]
  congr 1
  exact cell_ext (lt33 rfl rfl rfl rfl rfl rfl rfl rfl rfl rfl rfl rfl rfl rfl rfl rfl rfl rfl rfl rfl rfl rfl rfl rfl rfl rfl rfl rfl rfl rfl rfl rfl rfl) (fun i => by show (if i + 33 = 9 then _ else _) = _; rw [if_neg (by omega)]; rfl)
theorem mik (hA : inA A N) (g : Nat → Int) : hset (HP G h A N Y (F, P, T, K, la, ma, ik)) (A 10) (arZ G 2 g) = HP G h A N Y (F, P, T, K, la, ma, g) := by
  have hN := hA.1
  unfold HP
  rw [put_set hA 10 (by omega)]
  congr 1
  exact cell_ext (lt33 rfl rfl rfl rfl rfl rfl rfl rfl rfl rfl rfl rfl rfl rfl rfl rfl rfl rfl rfl rfl rfl rfl rfl rfl rfl rfl rfl rfl rfl rfl rfl rfl rfl) (fun i => by show (if i + 33 = 10 then _ else _) = _; rw [if_neg (by omega)]; rfl)
theorem mT2 (hA : inA A N) (g1 g2 : Nat → Int) (g : Nat → Int) (hg : g = sgOf (T.1, g1, g2)) : hset (HP G h A N Y (F, P, T, K, la, ma, ik)) (A 6) (arI G 12 g) = HP G h A N Y (F, P, (T.1, g1, g2), K, la, ma, ik) := by
  have hN := hA.1
  subst hg
  unfold HP
  rw [put_set hA 6 (by omega)]
  congr 1
  exact cell_ext (lt33 rfl rfl rfl rfl rfl rfl rfl rfl rfl rfl rfl rfl rfl rfl rfl rfl rfl rfl rfl rfl rfl rfl rfl rfl rfl rfl rfl rfl rfl rfl rfl rfl rfl) (fun i => by show (if i + 33 = 6 then _ else _) = _; rw [if_neg (by omega)]; rfl)
theorem hGet (hA : inA A N) (Y : CY) (X : MX) (k : Nat) (hk : k < 33) : HP G h A N Y X (A k) = some (cell G A Y X k) := put_get hA k (Nat.lt_of_lt_of_le hk hA.1)
theorem hFolk (hA : inA A N) : FolkAt G (HP G h A N (K, (F, P, T, V), O, im, IL) X) F (A 15) (A 16) (A 17) (A 18) (A 19) V :=
  ⟨hGet hA _ _ 15 (by decide), hGet hA _ _ 16 (by decide), hGet hA _ _ 17 (by decide), hGet hA _ _ 18 (by decide), hGet hA _ _ 19 (by decide)⟩
theorem hMod (hA : inA A N) : ModAt G (HP G h A N Y (F, P, T, K, la, ma, ik)) (A 0) (fun i => A (i + 1)) F P T K la ma ik :=
  ⟨hGet hA _ _ 0 (by decide), hGet hA _ _ 1 (by decide), hGet hA _ _ 2 (by decide), hGet hA _ _ 3 (by decide), hGet hA _ _ 4 (by decide), hGet hA _ _ 5 (by decide), hGet hA _ _ 6 (by decide), hGet hA _ _ 7 (by decide), hGet hA _ _ 8 (by decide), hGet hA _ _ 9 (by decide), hGet hA _ _ 10 (by decide)⟩
end WLD
