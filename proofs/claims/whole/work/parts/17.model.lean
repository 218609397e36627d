/-! ===== the reference: its state, words for its reads ===== -/
/-- a PLAN: how many works, their days, their people (bits) -/
abbrev PL : Type := Nat × (Nat → Int) × (Nat → Nat)
/-- SIGHTS: how many, dates, shut -/
abbrev ST : Type := Nat × (Nat → Int) × (Nat → Int)
/-- the PAD: how many signs, the signs -/
abbrev PD : Type := Nat × (Nat → Int)
def nf (g : Nat → Nat) : Nat → Int := fun w => (g w : Int)
def sgOf (T : ST) : Nat → Int := fun j => if j % 2 = 0 then T.2.1 (j / 2) else T.2.2 (j / 2)
def WFP (P : PL) : Prop := P.1 ≤ 6 ∧ ∀ w, w < P.1 → (0 ≤ P.2.1 w ∧ P.2.1 w ≤ 7) ∧ 0 < P.2.2 w ∧ P.2.2 w < 64
def WFT (T : ST) : Prop := T.1 ≤ 6 ∧ ∀ i, i < T.1 → (0 ≤ T.2.1 i ∧ T.2.1 i ≤ 9999) ∧ (T.2.2 i = 0 ∨ T.2.2 i = 1)
def ModAt (G : GG) (h : Hp) (m : Nat) (A : Nat → Nat) (F : FK) (P : PL) (T : ST) (K : PD) (la im ik : Nat → Int) : Prop :=
  h m = some (obj 7 [.int (zI (F.1 : Int)), .ref (A 0), .ref (A 1), .ref (A 2), .int (zI (P.1 : Int)), .ref (A 3), .ref (A 4), .int (zI (T.1 : Int)), .ref (A 5), .int (zI (K.1 : Int)), .ref (A 6), .ref (A 7), .ref (A 8), .ref (A 9)]) ∧
  h (A 0) = some (arI G 48 F.2.2.2) ∧ h (A 1) = some (arI G 6 F.2.2.1) ∧ h (A 2) = some (arI G 6 F.2.1) ∧ h (A 3) = some (arI G 6 P.2.1) ∧ h (A 4) = some (arI G 6 (nf P.2.2)) ∧ h (A 5) = some (arI G 12 (sgOf T)) ∧ h (A 6) = some (arI G 60 K.2) ∧ h (A 7) = some (arI G 7 la) ∧ h (A 8) = some (arI G 200 im) ∧ h (A 9) = some (arZ G 2 ik)
theorem mo_mod {x n : Int} (hn : 0 < n ∧ n ≤ 8) : (x.tmod n + n).tmod n = x % n := by
  have h1 := Int.tmod_lt_of_pos x hn.1
  have h2 := Int.lt_tmod_of_pos x hn.1
  rw [Int.tmod_eq_emod_of_nonneg (by omega), Int.add_emod_right, ← fm_mod]
/-- those of a set who have a day -/
def hsB (F : FK) (a : Nat) (D t : Int) (p : Nat) : Bool := a.testBit p && decide (dy F p t = D)
def hs (F : FK) (a : Nat) (D t : Int) : Nat := orb (hsB F a D t) 6
theorem hs_lt (F : FK) (a : Nat) (D t : Int) : hs F a D t < 64 := orb_lt _ 6
theorem hs_hv (F : FK) (D t : Int) : hs F F.1 D t = hv F D t := rfl
theorem hsB_y {F : FK} {a : Nat} {D t : Int} {p : Nat} (hb : a.testBit p = true) (h : dy F p t = D) : hsB F a D t p = true := by unfold hsB; rw [hb, decide_eq_true h]; rfl
theorem hsB_n {F : FK} {a : Nat} {D t : Int} {p : Nat} (h : a.testBit p = false ∨ dy F p t ≠ D) : hsB F a D t p = false := by
  unfold hsB
  rcases h with h | h
  · rw [h]; rfl
  · rw [decide_eq_false h, Bool.and_false]
theorem zI_orb0 {f : Nat → Bool} {p : Nat} (hf : f p = false) : zI ((orb f p : Nat) : Int) ||| zI 0 = zI ((orb f (p + 1) : Nat) : Int) := by
  rw [show zI 0 = zI ((0 : Nat) : Int) from rfl, zI_or, Nat.or_zero, orb_no hf]
theorem bit_6 {a i : Nat} (ha : a < 64) (hi : 6 ≤ i) : a.testBit i = false := Nat.testBit_lt_two_pow (Nat.lt_of_lt_of_le ha (Nat.pow_le_pow_right (n := 2) (by decide) hi))
theorem hs_ah {F : FK} {a : Nat} {D t : Int} (ha : a < 64) (hsub : ∀ q, q < 6 → a.testBit q = true → F.1.testBit q = true) : hs F a D t = a ↔ ah F a D t = true := by
  constructor
  · intro h
    refine alln_iff.mpr (fun p hp => ?_)
    cases hb : a.testBit p with
    | false => exact ahB_f hb
    | true =>
      have h1 : (hs F a D t).testBit p = true := by rw [h]; exact hb
      unfold hs at h1
      rw [orb_bit, Bool.and_eq_true] at h1
      have h2 := h1.2
      unfold hsB at h2
      unfold ahB hvB
      rw [hb] at h2 ⊢
      rw [hsub p hp hb]
      simpa using h2
  · intro h
    apply Nat.eq_of_testBit_eq
    intro i
    unfold hs
    rw [orb_bit]
    by_cases hi : i < 6
    · cases hb : a.testBit i with
      | false => unfold hsB; rw [hb]; simp
      | true =>
        have h1 := ah_bit h hi hb
        have h2 := (hvB_dy h1).2
        unfold hsB
        rw [hb]; simp [hi, h2]
    · rw [bit_6 ha (by omega)]; simp [hi]
theorem sub0 : ∀ a, a < 64 → ∀ b, b < 64 → ((zI ((a : Nat) : Int) &&& (zI ((b : Nat) : Int) ^^^ zI (-1)) = 0) ↔ a &&& b = a) := by decide +kernel
theorem sub_bit {a b : Nat} (h : a &&& b = a) : ∀ q, q < 6 → a.testBit q = true → b.testBit q = true := fun q _ hq => by
  rw [← h, Nat.testBit_and, Bool.and_eq_true] at hq
  exact hq.2
theorem ah_sub {F : FK} {a : Nat} {D t : Int} (ha : a < 64) (h : a &&& F.1 ≠ a) : ah F a D t = false := by
  cases hz : ah F a D t with
  | false => rfl
  | true =>
    exfalso
    apply h
    apply Nat.eq_of_testBit_eq
    intro i
    rw [Nat.testBit_and]
    by_cases hi : i < 6
    · cases hb : a.testBit i with
      | false => rfl
      | true => rw [(hvB_dy (ah_bit hz hi hb)).1]; rfl
    · rw [bit_6 ha (by omega)]; rfl
/-- a set of people who are there, not empty -/
def setB (F : FK) (z : Int) : Bool := rg z 1 63 && decide (z.toNat &&& F.1 = z.toNat)
theorem setB_t {F : FK} {a : Nat} (h : 1 ≤ a ∧ a ≤ 63) (h2 : a &&& F.1 = a) : setB F (a : Int) = true := by
  unfold setB
  rw [rg_t ⟨by omega, by omega⟩, Int.toNat_natCast, decide_eq_true h2]; rfl
theorem setB_f1 {F : FK} {z : Int} (h : z < 1 ∨ 63 < z) : setB F z = false := by unfold setB; rw [rg_f h]; rfl
theorem setB_f2 {F : FK} {a : Nat} (h2 : a &&& F.1 ≠ a) : setB F (a : Int) = false := by unfold setB; rw [Int.toNat_natCast, decide_eq_false h2, Bool.and_false]
theorem setB_of {F : FK} {z : Int} (h : setB F z = true) : ∃ a : Nat, z = (a : Int) ∧ 1 ≤ a ∧ a < 64 ∧ a &&& F.1 = a := by
  unfold setB at h
  rw [Bool.and_eq_true] at h
  have := of_rg h.1
  exact ⟨z.toNat, by omega, by omega, by omega, of_decide_eq_true h.2⟩
theorem cdn_y {F : FK} {a : Nat} {t : Int} {n : Nat} (h : ah F a (n : Int) t = true) : (n : Int) = cdn F a t (n + 1) := by rw [cdn, if_pos h]
theorem cdn_n {F : FK} {a : Nat} {t : Int} {n : Nat} (h : ¬ ah F a (n : Int) t = true) : cdn F a t n = cdn F a t (n + 1) := by rw [cdn, if_neg h]
theorem alln_s1 {f : Nat → Bool} {n : Nat} (h1 : alln f n = true) (h2 : f n = true) : alln f (n + 1) = true := by rw [alln, h1, h2]; rfl
theorem alln_s0 {f : Nat → Bool} {n : Nat} (h2 : f n = false) : alln f (n + 1) = false := by rw [alln, h2, Bool.and_false]
theorem alln_up {f : Nat → Bool} {n N : Nat} (h : alln f n = false) (hn : n ≤ N) : alln f N = false := by
  cases hz : alln f N with
  | false => rfl
  | true => rw [alln_iff.mpr (fun i hi => alln_iff.mp hz i (by omega))] at h; cases h
theorem exn_s1 {f : Nat → Bool} {n : Nat} (h : f n = true) : exn f (n + 1) = true := exn_t (Nat.lt_succ_self n) h
theorem exn_s0 {f : Nat → Bool} {n : Nat} (h0 : exn f n = false) (h : f n = false) : exn f (n + 1) = false := by
  unfold exn at h0 ⊢
  rw [alln, h]
  simpa using h0
theorem exn_up {f : Nat → Bool} {n N : Nat} (h : exn f n = true) (hn : n ≤ N) : exn f N = true := by
  obtain ⟨i, hi, hf⟩ := exn_iff.mp h
  exact exn_t (by omega) hf
theorem ev_not (F : FK) (a : Nat) (D : Int) : (!(ev F a D)) = alln (fun t : Nat => !(ah F a D (t : Int))) 840 := by
  unfold ev exn
  rw [Bool.not_not]
theorem pop_orb (f : Nat → Bool) : pop (orb f 6) = cnt f 6 := by
  unfold pop
  have h : ∀ i, i < 6 → (orb f 6).testBit i = f i := fun i hi => by rw [orb_bit]; simp [hi]
  have h6 : ∀ i, 6 ≤ i → (orb f 6).testBit i = false := fun i hi => bit_6 (orb_lt f 6) hi
  rw [cnt_s, cnt_s, h6 6 (by decide), h6 7 (by decide), cnt_cg h]; rfl
theorem pop_hv (F : FK) (D t : Int) : pop (hs F F.1 D t) = cnt (hvB F D t) 6 := pop_orb _
/-- on whose day the well was shut -/
def wlB (F : FK) (T : ST) (p : Nat) (D : Int) (i : Nat) : Bool := decide (dy F p (T.2.1 i) = D) == decide (T.2.2 i = 1)
def wl (F : FK) (T : ST) (p : Nat) (D : Int) (n : Nat) : Bool := F.1.testBit p && alln (wlB F T p D) n
theorem wl_th {F : FK} {T : ST} {p : Nat} {D : Int} {n : Nat} (h : wl F T p D n = true) : F.1.testBit p = true := by unfold wl at h; rw [Bool.and_eq_true] at h; exact h.1
theorem wl_1 {F : FK} {T : ST} {p : Nat} {D : Int} {n : Nat} (h : wl F T p D n = true) (h2 : wlB F T p D n = true) : wl F T p D (n + 1) = true := by
  unfold wl at h ⊢
  rw [Bool.and_eq_true] at h ⊢
  exact ⟨h.1, alln_s1 h.2 h2⟩
theorem wl_0 {F : FK} {T : ST} {p : Nat} {D : Int} {n : Nat} (h2 : wlB F T p D n = false) : wl F T p D (n + 1) = false := by
  unfold wl
  rw [alln_s0 h2, Bool.and_false]
theorem wl_up {F : FK} {T : ST} {p : Nat} {D : Int} {n N : Nat} (h : wl F T p D n = false) (hn : n ≤ N) : wl F T p D N = false := by
  unfold wl at h ⊢
  cases hb : F.1.testBit p with
  | false => rfl
  | true => rw [hb, Bool.true_and] at h; rw [alln_up h hn]; rfl
theorem wl_z (F : FK) (T : ST) (p : Nat) (D : Int) : bI (F.1.testBit p) = bI (wl F T p D 0) := by unfold wl alln; rw [Bool.and_true]
theorem wlB_v {F : FK} {T : ST} {p i : Nat} {D : Int} {a b : Bool} (ha : decide (dy F p (T.2.1 i) = D) = a) (hb : decide (T.2.2 i = 1) = b) : wlB F T p D i = (a == b) := by unfold wlB; rw [ha, hb]
theorem sg_e (T : ST) (i : Nat) : sgOf T (2 * i) = T.2.1 i := by
  unfold sgOf
  rw [if_pos (by omega), show 2 * i / 2 = i by omega]
theorem sg_o (T : ST) (i : Nat) : sgOf T (2 * i + 1) = T.2.2 i := by
  unfold sgOf
  rw [if_neg (by omega), show (2 * i + 1) / 2 = i by omega]
/-- one of the fourteen orders -/
def tn (w k : Int) : Int := if w < 7 then (w % 7 + k % 7) % 7 else (w % 7 + 7 - k % 7) % 7
theorem mo_mod7 {x : Int} : (x.tmod 7 + 7).tmod 7 = x % 7 := mo_mod (by decide)
theorem tm_bnd7 (x : Int) : -7 < x.tmod 7 ∧ x.tmod 7 < 7 := ⟨Int.lt_tmod_of_pos x (by decide), Int.tmod_lt_of_pos x (by decide)⟩
