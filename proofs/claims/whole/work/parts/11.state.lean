/-! ===== the state in plain words ===== -/
/-- how many of the eight bits -/
def pop (a : Nat) : Nat := cnt a.testBit 8
theorem pop_le (a : Nat) : pop a ≤ 8 := cnt_le _ 8
theorem cnt_bI (f : Nat → Bool) (p : Nat) : ((cnt f p : Nat) : Int) + bI (f p) = ((cnt f (p + 1) : Nat) : Int) := by
  rw [cnt_s]
  cases f p <;> simp [bI]
/-- who is there, births, sizes, orders (8 places a person) -/
abbrev FK : Type := Nat × (Nat → Int) × (Nat → Int) × (Nat → Int)
def thB (F : FK) (p : Nat) : Bool := F.1.testBit p
def thI (F : FK) (z : Int) : Bool := rg z 0 5 && F.1.testBit z.toNat
/-- a person's day on a date -/
def dy (F : FK) (p : Nat) (t : Int) : Int := F.2.2.2 (8 * p + ((t - F.2.1 p) % F.2.2.1 p).toNat)
/-- what always holds of the people -/
def WF (F : FK) : Prop := F.1 < 64 ∧ ∀ p, p < 6 → F.1.testBit p = true → (0 ≤ F.2.1 p ∧ F.2.1 p ≤ 99) ∧ (5 ≤ F.2.2.1 p ∧ F.2.2.1 p ≤ 8) ∧ ∀ k : Nat, (k : Int) < F.2.2.1 p → 0 ≤ F.2.2.2 (8 * p + k) ∧ F.2.2.2 (8 * p + k) ≤ 7
theorem WF.dy {F : FK} (hW : WF F) {p : Nat} (hp : p < 6) (hb : F.1.testBit p = true) (t : Int) : 0 ≤ dy F p t ∧ dy F p t ≤ 7 := by
  obtain ⟨h1, h2, h3⟩ := hW.2 p hp hb
  have h4 := Int.emod_nonneg (t - F.2.1 p) (b := F.2.2.1 p) (by omega)
  have h5 := Int.emod_lt_of_pos (t - F.2.1 p) (b := F.2.2.1 p) (by omega)
  exact h3 _ (by omega)
theorem thI_p {F : FK} {z : Int} (h : thI F z = true) : ∃ p : Nat, p < 6 ∧ z = (p : Int) ∧ F.1.testBit p = true := by
  unfold thI at h
  rw [Bool.and_eq_true] at h
  have := of_rg h.1
  exact ⟨z.toNat, by omega, by omega, h.2⟩
theorem thI_n (F : FK) {p : Nat} (hp : p < 6) : thI F (p : Int) = F.1.testBit p := by
  unfold thI
  rw [rg_t ⟨by omega, by omega⟩]
  simp
/-- class Folk in the heap -/
def FolkAt (G : GG) (h : Hp) (F : FK) (f b s o v : Nat) (V : Nat → Int) : Prop :=
  h f = some (obj 0 [.int (zI (F.1 : Int)), .ref b, .ref s, .ref o, .ref v]) ∧ h b = some (arI G 6 F.2.1) ∧ h s = some (arI G 6 F.2.2.1) ∧ h o = some (arI G 48 F.2.2.2) ∧ h v = some (arI G 8 V)
/-! floorMod's three ends; the sign of a number xor a small positive one -/
theorem zI_msb {z : Int} (h : inR z) : (zI z).toBitVec.msb = decide (z < 0) := by
  rw [BitVec.msb_eq_toInt]
  show decide ((zI z).toInt < 0) = _
  rw [zI_toInt h]
theorem w_0le (w : Int32) : 0 ≤ w ↔ w.toBitVec.msb = false := by
  rw [Int32.le_iff_toInt_le, BitVec.msb_eq_toInt]
  show (0 : Int) ≤ w.toInt ↔ decide (w.toInt < 0) = false
  rw [decide_eq_false_iff_not]
  omega
theorem fm_sgn {x n : Int} (hx : inR x) (hn : 0 < n ∧ n ≤ 8) : 0 ≤ (zI x ^^^ zI n) ↔ 0 ≤ x := by
  rw [w_0le]
  show ((zI x).toBitVec ^^^ (zI n).toBitVec).msb = false ↔ _
  rw [BitVec.msb_xor, zI_msb hx, zI_msb (z := n) ⟨by omega, by omega⟩]
  have h2 : decide (n < 0) = false := decide_eq_false (by omega)
  rw [h2]
  by_cases h : x < 0
  · have h3 : ¬ 0 ≤ x := by omega
    simp [h, h3]
  · have h3 : 0 ≤ x := by omega
    simp [h, h3]
theorem tm_bnd {x n : Int} (hn : 0 < n ∧ n ≤ 8) : -8 < x.tmod n ∧ x.tmod n < 8 := by
  have h1 := Int.tmod_lt_of_pos x hn.1
  have h2 := Int.lt_tmod_of_pos x hn.1
  omega
theorem fm_mod {x n : Int} : x % n = x.tmod n % n := by
  have h := Int.mul_tdiv_add_tmod x n
  have e : x = x.tmod n + n * x.tdiv n := by omega
  calc x % n = (x.tmod n + n * x.tdiv n) % n := by rw [← e]
    _ = x.tmod n % n := Int.add_mul_emod_self_left _ _ _
theorem fm_pos {x n : Int} (hs : 0 ≤ x) : x.tmod n = x % n := Int.tmod_eq_emod_of_nonneg hs
theorem fm_zero {x n : Int} (h : x.tmod n = 0) : x.tmod n = x % n := by
  rw [fm_mod, h, Int.zero_emod]
theorem fm_neg {x n : Int} (hs : x < 0) (hn : 0 < n ∧ n ≤ 8) (h : x.tmod n ≠ 0) : x.tmod n + n = x % n := by
  have h1 := Int.tmod_lt_of_pos x hn.1
  have h2 := Int.lt_tmod_of_pos x hn.1
  have h3 : x.tmod n ≤ 0 := by
    have h4 := Int.tmod_nonneg (a := -x) n (by omega)
    rw [Int.neg_tmod] at h4
    omega
  rw [fm_mod, ← Int.add_emod_right, Int.emod_eq_of_lt (by omega) (by omega)]
