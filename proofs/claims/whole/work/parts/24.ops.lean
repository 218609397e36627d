/-! ===== what each call answers (both must answer so) ===== -/
def sayR (K : PD) (z : Int) : Int := if rg z 33 126 then (if K.1 < 60 then (K.1 : Int) + 1 else -4) else -2
def sayK (K : PD) (z : Int) : PD := if rg z 33 126 then (if K.1 < 60 then addK K z else K) else K
def faultR (K : PD) (z : Int) : Int := if z = 0 then ofK K else if z = 1 then pfK K else -2
def bornR (K : PD) (z b : Int) : Int := if rg z 0 5 then (if rg b 0 99 then (if ofK K = -6 then (K.1 : Int) else -5) else -2) else -1
def bornD (K : PD) (z b : Int) : Bool := rg z 0 5 && (rg b 0 99 && decide (ofK K = -6))
def clr (a p : Nat) : Nat := a &&& (63 ^^^ 2 ^ p)
theorem clr_z : ∀ a, a < 64 → ∀ p, p < 6 → zI ((a : Nat) : Int) &&& (zI ((2 ^ p : Nat) : Int) ^^^ zI (-1)) = zI ((clr a p : Nat) : Int) := by decide +kernel
theorem clr_lt {a p : Nat} (h : a < 64) : clr a p < 64 := Nat.lt_of_le_of_lt Nat.and_le_left h
theorem clr_bit {a p q : Nat} (h : (clr a p).testBit q = true) : a.testBit q = true := by
  unfold clr at h
  rw [Nat.testBit_and, Bool.and_eq_true] at h
  exact h.1
def exR (F : FK) (z : Int) : Int := if thI F z then (pop (clr F.1 z.toNat) : Int) else -1
def exF (F : FK) (z : Int) : FK := if thI F z then (clr F.1 z.toNat, F.2) else F
def planR (K : PD) (P : PL) : Int := if pfK K = -6 then ((rdS K P K.1).1 : Int) else -5
def planP (K : PD) (P : PL) : PL := if pfK K = -6 then rdS K P K.1 else P
def planK (K : PD) : PD := if pfK K = -6 then (0, K.2) else K
def todayR (F : FK) (z t : Int) : Int := if thI F z then (if rg t 0 9999 then dn F z t else -2) else -1
def sameR (F : FK) (D t : Int) : Int := if rg D 0 7 then (if rg t 0 9999 then (hv F D t : Int) else -2) else -1
/-- the first date from t on, less than 10000, with a day -/
def nxB (F : FK) (z D : Int) (k : Nat) : Bool := decide (dn F z (k : Int) = D)
def nextR (F : FK) (z D t : Int) : Int := if thI F z && rg D 0 7 then (if rg t 0 9999 then (match ffr (nxB F z D) (10000 - t.toNat) t.toNat with | some k => (k : Int) | none => -6) else -2) else -1
def mtB (F : FK) (a t : Int) (k : Nat) : Bool := !(decide (cd F a.toNat (t + (k : Int)) = -6))
def meetR (F : FK) (a t w : Int) : Int := if setB F a && (rg t 0 9999 && rg w 0 1) then (match ffr (mtB F a t) 840 0 with | some k => if w = 0 then t + (k : Int) else cd F a.toNat (t + (k : Int)) | none => -6) else -2
def twI (F : FK) (z y : Int) : Bool := !(decide (z = y)) && (thI F z && thI F y)
def sharedR (F : FK) (z y : Int) : Int := if twI F z y then (shr F z.toNat y.toNat 840 : Int) else -1
def nvF (F : FK) (p q : Nat) : Bool := (F.1.testBit p && F.1.testBit q) && !(exn (shB F p q) 840)
def twF (F : FK) (p q : Nat) : Bool := (F.1.testBit p && F.1.testBit q) && twB F p q
def prR (f : Nat → Nat → Bool) (i : Int) : Int := ith f i (prs 0 1) 0
def mkB (F : FK) (D m : Int) (t : Nat) : Bool := decide (m ≤ (pop (hv F D (t : Int)) : Int))
/-- the longest row of dates from a on, n of them: (row, longest) -/
def rowS (f : Nat → Bool) (a : Nat) : Nat → Int × Int
  | 0 => (0, 0)
  | n + 1 => (if f (a + n) then 0 else (rowS f a n).1 + 1, if (rowS f a n).2 < (if f (a + n) then 0 else (rowS f a n).1 + 1) then (if f (a + n) then 0 else (rowS f a n).1 + 1) else (rowS f a n).2)
def firstR (f : Nat → Bool) : Int := match ffr f 840 0 with | some k => (k : Int) | none => -6
def longR (f : Nat → Bool) : Int := match ffr f 840 0 with | some k => (rowS f k 841).2 | none => 840
def marketR (F : FK) (D m w : Int) : Int := if rg D 0 7 then (if rg m 1 6 && rg w 0 2 then (if w = 0 then (cnt (mkB F D m) 840 : Int) else if w = 1 then firstR (mkB F D m) else longR (mkB F D m)) else -2) else -1
def canR (F : FK) (P : PL) (w t : Int) : Int := if rg w 0 ((P.1 : Int) - 1) then (if rg t 0 9999 then bI (ah F (P.2.2 w.toNat) (P.2.1 w.toNat) t) else -2) else -1
def barB (F : FK) (P : PL) (w : Nat) : Bool := !(ev F (P.2.2 w) (P.2.1 w))
def barredR (F : FK) (P : PL) : Int := (orb (barB F P) P.1 : Int)
def whyR (F : FK) (P : PL) (w : Int) : Int := if rg w 0 ((P.1 : Int) - 1) then (if barB F P w.toNat then (if P.2.2 w.toNat &&& F.1 = P.2.2 w.toNat then wn F (P.2.2 w.toNat) (P.2.1 w.toNat) else -3) else -5) else -1
def chgN (F : FK) (a : Nat) (D t : Int) : Nat := pop (a &&& (63 ^^^ hv F D t))
/-- COMMON: over the 56 of seven dates and eight days -/
def cmS (F : FK) (a : Nat) (t : Int) : Nat → Option (Int × Int)
  | 0 => none
  | n + 1 => if hv F ((n % 8 : Nat) : Int) (t + ((n / 8 : Nat) : Int)) ≠ 0 ∧ (∀ x, cmS F a t n = some x → (chgN F a ((n % 8 : Nat) : Int) (t + ((n / 8 : Nat) : Int)) : Int) < x.1) then some ((chgN F a ((n % 8 : Nat) : Int) (t + ((n / 8 : Nat) : Int)) : Int), 100 * ((n / 8 : Nat) : Int) + ((n % 8 : Nat) : Int)) else cmS F a t n
def commonR (F : FK) (a t w : Int) : Int := if setB F a && (rg t 0 9990 && rg w 0 1) then (match cmS F a.toNat t 56 with | some x => if w = 0 then x.1 else x.2 | none => -6) else -2
/-- WEDDING: the cost of each way -/
def wcost (F : FK) (p q : Nat) (n : Nat) : Option Int :=
  if n = 0 then (if 4 ≤ shr F p q 28 then some 0 else none) else if n = 1 then some (cst F p q) else if n = 2 then some (cst F q p) else if 10 ≤ n ∧ F.1.testBit (n - 10) = true ∧ n - 10 ≠ p ∧ n - 10 ≠ q ∧ n - 10 < 6 then some (cst F p (n - 10) + cst F q (n - 10)) else none
def wdS (F : FK) (p q : Nat) : Nat → Option (Int × Int)
  | 0 => none
  | n + 1 => match wcost F p q n with
    | none => wdS F p q n
    | some c => match wdS F p q n with
      | none => some (c, (n : Int))
      | some x => if c < x.1 then some (c, (n : Int)) else some x
def wedR (F : FK) (z y w : Int) : Int := if twI F z y then (if rg w 0 1 then (match wdS F z.toNat y.toNat 16 with | some x => if w = 0 then x.1 else x.2 | none => -6) else -2) else -1
/-- BORN: the best of fourteen -/
def bsS (F : FK) (bi : Int) : Nat → Int × Int
  | 0 => (-1, -6)
  | n + 1 => if (bsS F bi n).1 < fsh F ((n % 7 : Nat) : Int) ((n / 7 : Nat) : Int) bi 6 then (fsh F ((n % 7 : Nat) : Int) ((n / 7 : Nat) : Int) bi 6, 10 * ((n / 7 : Nat) : Int) + ((n % 7 : Nat) : Int)) else bsS F bi n
def bestR (F : FK) (bi w : Int) : Int := if rg bi 0 99 && rg w 0 1 then (if w = 0 then (bsS F bi 14).1 else (bsS F bi 14).2) else -2
def feastR (F : FK) (t : Int) : Int := if rg t 0 9999 then ft F t else -2
def fdB (F : FK) (D : Int) (t : Nat) : Bool := decide (ft F (t : Int) = D)
def feastsR (F : FK) (D : Int) : Int := if rg D 0 7 then (cnt (fdB F D) 840 : Int) else -1
/-- who has the feast's day on a date -/
def rcB (F : FK) (p : Nat) (t : Nat) : Bool := hvB F (ft F (t : Int)) (t : Int) p
def poB (F : FK) (n p : Nat) : Bool := F.1.testBit p && !(exn (rcB F p) n)
def poorR (F : FK) : Int := (orb (poB F 840) 6 : Int)
def oneR (F : FK) (z w : Int) : Int := if thI F z then (if rg w 0 1 then (if w = 0 then (cnt (fun t : Nat => decide (cd F F.1 (t : Int) = -6)) 28 : Int) else csum F z.toNat 6) else -2) else -1
def seenR (T : ST) (t s : Int) : Int := if rg t 0 9999 && rg s 0 1 then (if T.1 < 6 then (T.1 : Int) + 1 else -4) else -2
def seenT (T : ST) (t s : Int) : ST := if rg t 0 9999 && rg s 0 1 then (if T.1 < 6 then addT T t s else T) else T
/-- people and days in their order -/
def wls (p q : Nat) : List (Nat × Nat) := ((List.range 48).map (fun n => (n / 8, n % 8))).filter (fun x => decide (p < x.1) || (decide (x.1 = p) && decide (q ≤ x.2)))
theorem wls_c : ∀ p, p < 6 → ∀ q, q < 8 → wls p q = (p, q) :: wls p (q + 1) := by decide +kernel
theorem wls_n : ∀ p, p < 6 → wls p 8 = wls (p + 1) 0 := by decide +kernel
theorem wls_e : wls 6 0 = [] := by decide +kernel
def wlF (F : FK) (T : ST) (p q : Nat) : Bool := wl F T p (q : Int) T.1
def whoseR (F : FK) (T : ST) (i : Int) : Int := ith (wlF F T) i (wls 0 0) 0
def suA (F : FK) (T : ST) (n : Nat) : Bool := wlF F T (n / 8) (n % 8)
def suS (F : FK) (T : ST) (t : Int) (n : Nat) : Bool := wlF F T (n / 8) (n % 8) && decide (dy F (n / 8) t = ((n % 8 : Nat) : Int))
def sureR (F : FK) (T : ST) (t : Int) : Int := if rg t 0 9999 then (if cnt (suA F T) 48 = 0 then -6 else if cnt (suS F T t) 48 = 0 then 0 else if cnt (suS F T t) 48 = cnt (suA F T) 48 then 1 else 2) else -2
def chV (D w : Int) : Int := if D = 7 then (if w = 0 then 0 else 1) else (if w = 0 then 1 else 7)
def chanceR (D t w : Int) : Int64 := if rg D 0 7 then (if rg t 0 9999 && rg w 0 1 then (zI (chV D w)).toInt64 else -1000000000000000002) else -1000000000000000001
def sharesR (F : FK) (z t w : Int) : Int64 := if thI F z then (if rg t 0 9999 && rg w 0 1 then (zI (chV (dn F z t) w)).toInt64 else -1000000000000000002) else -1000000000000000001
/-- A YEAR: x, meetings, days as bits, the last meeting, the greatest number between -/
abbrev YS : Type := Int × Nat × Nat × Int × Int
def yrM (F : FK) (x : Int) (n : Nat) : Bool := twI F (x % 6) (x / 6 % 6) && decide (dn F (x % 6) (n : Int) = dn F (x / 6 % 6) (n : Int))
def yrS (F : FK) (s : Int) : Nat → YS
  | 0 => (s, 0, 0, 0, 0)
  | n + 1 => let y := yrS F s n; let x := (75 * y.1 + 74) % 65537
    if yrM F x n then (x, y.2.1 + 1, y.2.2.1 ||| 2 ^ (dn F (x % 6) (n : Int)).toNat, (n : Int), if y.2.1 = 0 then 0 else if y.2.2.2.2 < (n : Int) - y.2.2.2.1 then (n : Int) - y.2.2.2.1 else y.2.2.2.2) else (x, y.2)
def yearR (F : FK) (s m w : Int) : Int := if rg s 0 9999 && (rg m 1 999 && rg w 0 2) then (if w = 0 then ((yrS F s m.toNat).2.1 : Int) else if w = 1 then (pop (yrS F s m.toNat).2.2.1 : Int) else (yrS F s m.toNat).2.2.2.2) else -2
def toldP (F : FK) (z : Int) : Int := if rg z 10 15 && thI F (z - 10) then F.2.1 (z - 10).toNat else if rg z 20 25 && thI F (z - 20) then F.2.2.1 (z - 20).toNat else if rg z 100 999 && (thI F (z / 100 - 1) && decide (z % 100 < F.2.2.1 (z / 100 - 1).toNat)) then F.2.2.2 (8 * (z / 100 - 1).toNat + (z % 100).toNat) else -2
def toldW (P : PL) (z : Int) : Int := if rg (z / 1000 - 1) 0 ((P.1 : Int) - 1) && rg (z % 1000) 0 1 then (if z % 1000 = 0 then P.2.1 (z / 1000 - 1).toNat else (P.2.2 (z / 1000 - 1).toNat : Int)) else -2
def toldR (K : PD) (F : FK) (P : PL) (T : ST) (z : Int) : Int := if z = 0 then (K.1 : Int) else if z = 1 then (F.1 : Int) else if z = 2 then (P.1 : Int) else if z = 3 then (T.1 : Int) else if z < 1000 then toldP F z else toldW P z
theorem twI_of {F : FK} {z y : Int} (h : twI F z y = true) : ∃ p q : Nat, p < 6 ∧ q < 6 ∧ z = (p : Int) ∧ y = (q : Int) ∧ F.1.testBit p = true ∧ F.1.testBit q = true ∧ p ≠ q := by
  unfold twI at h
  rw [Bool.and_eq_true, Bool.and_eq_true] at h
  obtain ⟨h1, h2, h3⟩ := h
  obtain ⟨p, a1, rfl, a3⟩ := thI_p h2
  obtain ⟨q, b1, rfl, b3⟩ := thI_p h3
  exact ⟨p, q, a1, b1, rfl, rfl, a3, b3, fun e => by subst e; simp at h1⟩
theorem twI_n {F : FK} {p q : Nat} (hp : p < 6) (hq : q < 6) (h : twI F (p : Int) (q : Int) = true) : F.1.testBit p = true ∧ F.1.testBit q = true := by
  unfold twI at h
  rw [Bool.and_eq_true, Bool.and_eq_true, thI_n F hp, thI_n F hq] at h
  exact h.2
theorem pr_no {F : FK} {b : Bool} {p q : Nat} (hp : p < 6) (hq : q < 6) (hpq : p < q) (h : twI F (p : Int) (q : Int) = false) : (if b then twF F p q else nvF F p q) = false := by
  unfold twI at h
  rw [thI_n F hp, thI_n F hq, decide_eq_false (by omega)] at h
  have h2 : (F.1.testBit p && F.1.testBit q) = false := by simpa using h
  unfold twF nvF
  rw [h2]
  cases b <;> rfl
theorem w_sub {z : Int} {b : Nat} (hz : inR z) (hb : b < 64) (h : zI z &&& (zI (b : Int) ^^^ zI (-1)) = 0) : ∃ a : Nat, a < 64 ∧ z = (a : Int) := by
  have h1 : (zI z).toBitVec &&& ((zI (b : Int)).toBitVec ^^^ (zI (-1)).toBitVec) = 0#32 := congrArg Int32.toBitVec h
  have h2 : (zI (-1)).toBitVec = BitVec.allOnes 32 := by decide
  rw [h2] at h1
  have h3 : ∀ i, 6 ≤ i → (zI z).toBitVec.getLsbD i = false := fun i hi => by
    by_cases hi2 : i < 32
    · have h4 := congrArg (fun x => BitVec.getLsbD x i) h1
      simp only [BitVec.getLsbD_and, BitVec.getLsbD_xor, BitVec.getLsbD_allOnes] at h4
      have h5 : (zI (b : Int)).toBitVec.getLsbD i = false := by
        rw [zI_nat, nI_bv, BitVec.getLsbD_ofNat, bit_6 hb hi, Bool.and_false]
      rw [h5] at h4
      simpa [hi2] using h4
    · exact BitVec.getLsbD_of_ge _ _ (by omega)
  have h6 : (zI z).toBitVec.toNat < 64 := by
    refine Nat.lt_pow_two_of_testBit (n := 6) _ (fun i hi => ?_)
    exact h3 i hi
  have h7 : (zI z).toInt = ((zI z).toBitVec.toNat : Int) := by
    show (zI z).toBitVec.toInt = _
    exact BitVec.toInt_eq_toNat_of_lt (by omega)
  rw [zI_toInt hz] at h7
  exact ⟨_, h6, h7⟩
theorem setB_w1 {F : FK} {z : Int} (hz : inR z) (hth : F.1 < 64) (h : ¬ zI z &&& (zI (F.1 : Int) ^^^ zI (-1)) = 0) : setB F z = false := by
  cases hs : setB F z with
  | false => rfl
  | true =>
    obtain ⟨a, rfl, h1, h2, h3⟩ := setB_of hs
    exact absurd ((sub0 a h2 F.1 hth).mpr h3) h
theorem setB_w2 {F : FK} {z : Int} (hz : inR z) (hth : F.1 < 64) (h0 : z ≠ 0) (h : zI z &&& (zI (F.1 : Int) ^^^ zI (-1)) = 0) : setB F z = true := by
  obtain ⟨a, h1, rfl⟩ := w_sub hz hth h
  exact setB_t (by omega) ((sub0 a h1 F.1 hth).mp h)
theorem c_X6_isOneOfL {G : GG} {l : Launch} (d : Nat) {h : Hp} (z n m : Int) (e : n - 1 = m) (hz : inR z) (hn : inR n) : CT G l mX6_isOneOf (d + 1) 0 0 [.int (zI (z)), .int (zI (n))] h (RQ h (bI (rg z 0 m))) := by
  subst e
  exact c_X6_isOneOf d z n hz hn
