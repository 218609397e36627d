/-! ===== ints as zI z ===== -/
def zI (z : Int) : Int32 := Int32.ofInt z
abbrev inR (z : Int) : Prop := -2147483648 ≤ z ∧ z < 2147483648
theorem zI_toInt {z : Int} (h : inR z) : (zI z).toInt = z := Int32.toInt_ofInt_of_le (Int.le_trans (by decide) h.1) (Int.lt_of_lt_of_le h.2 (by decide))
theorem zI_of (x : Int32) : ∃ z : Int, inR z ∧ x = zI z := ⟨x.toInt, ⟨Int.le_trans (by decide) x.le_toInt, Int.lt_of_lt_of_le x.toInt_lt (by decide)⟩, (Int32.ofInt_toInt x).symm⟩
theorem zI_add (a b : Int) : zI a + zI b = zI (a + b) := (Int32.ofInt_add a b).symm
theorem zI_sub (a b : Int) : zI a - zI b = zI (a - b) := (Int32.ofInt_sub a b).symm
theorem zI_mul (a b : Int) : zI a * zI b = zI (a * b) := (Int32.ofInt_mul a b).symm
theorem zI_nat (n : Nat) : zI (n : Int) = nI n := Int32.ofInt_eq_ofNat
theorem zI_lt {a b : Int} (ha : inR a) (hb : inR b) : zI a < zI b ↔ a < b := by rw [Int32.lt_iff_toInt_lt, zI_toInt ha, zI_toInt hb]
theorem zI_le {a b : Int} (ha : inR a) (hb : inR b) : zI a ≤ zI b ↔ a ≤ b := by rw [Int32.le_iff_toInt_le, zI_toInt ha, zI_toInt hb]
theorem zI_eq {a b : Int} (ha : inR a) (hb : inR b) : zI a = zI b ↔ a = b := by rw [← Int32.toInt_inj, zI_toInt ha, zI_toInt hb]
theorem zI_0 : zI 0 = 0 := by decide
theorem zI_1 : zI 1 = 1 := by decide
theorem zI_eq0 {a : Int} (ha : inR a) : zI a = 0 ↔ a = 0 := by rw [← zI_0]; exact zI_eq ha (by decide)
theorem zI_lt0 {a : Int} (ha : inR a) : zI a < 0 ↔ a < 0 := by rw [← zI_0]; exact zI_lt ha (by decide)
theorem zI_0le {a : Int} (ha : inR a) : 0 ≤ zI a ↔ 0 ≤ a := by rw [← zI_0]; exact zI_le (by decide) ha
theorem zI_le0 {a : Int} (ha : inR a) : zI a ≤ 0 ↔ a ≤ 0 := by rw [← zI_0]; exact zI_le ha (by decide)
theorem zI_0lt {a : Int} (ha : inR a) : 0 < zI a ↔ 0 < a := by rw [← zI_0]; exact zI_lt (by decide) ha
theorem zI_clamp {z : Int} (h : inR z) : (zI z).toNatClampNeg = z.toNat := Int32.toNatClampNeg_ofInt_of_le (Int.le_trans (by decide) h.1) (Int.lt_of_lt_of_le h.2 (by decide))
theorem zI_clampN {n : Nat} (h : n < 2147483648) : (zI (n : Int)).toNatClampNeg = n := by
  rw [zI_clamp ⟨by omega, by omega⟩]; exact Int.toNat_natCast n
theorem zI_in {j n : Nat} (h : j < n) (hn : n < 2147483648) : vp_in (zI (j : Int)) n := by
  rw [vp_in_iff, zI_toInt ⟨by omega, by omega⟩]
  omega
theorem zI_div {a b : Int} (ha : inR a) (hb : inR b) : zI a / zI b = zI (a.tdiv b) :=
  (Int32.ofInt_tdiv (Int.le_trans (by decide) ha.1) (Int.le_trans (Int.le_sub_one_of_lt ha.2) (by decide)) (Int.le_trans (by decide) hb.1) (Int.le_trans (Int.le_sub_one_of_lt hb.2) (by decide))).symm
theorem zI_rem {a b : Int} (ha : inR a) (hb : inR b) : zI a - zI a / zI b * zI b = zI (a.tmod b) := by
  rw [zI_div ha hb, zI_mul, zI_sub]
  congr 1
  have := Int.mul_tdiv_add_tmod a b
  rw [Int.mul_comm] at this
  omega
theorem nI_bv (n : Nat) : (nI n).toBitVec = BitVec.ofNat 32 n := rfl
theorem zI_and (a b : Nat) : zI (a : Int) &&& zI (b : Int) = zI ((a &&& b : Nat) : Int) := by
  rw [zI_nat, zI_nat, zI_nat]
  apply Int32.toBitVec.inj
  show (nI a).toBitVec &&& (nI b).toBitVec = (nI (a &&& b)).toBitVec
  rw [nI_bv, nI_bv, nI_bv, ← BitVec.ofNat_and]
theorem zI_or (a b : Nat) : zI (a : Int) ||| zI (b : Int) = zI ((a ||| b : Nat) : Int) := by
  rw [zI_nat, zI_nat, zI_nat]
  apply Int32.toBitVec.inj
  show (nI a).toBitVec ||| (nI b).toBitVec = (nI (a ||| b)).toBitVec
  rw [nI_bv, nI_bv, nI_bv, ← BitVec.ofNat_or]
theorem zI_shc : ∀ n, n < 32 → ((nI n &&& 31).toBitVec.smod 32).toNat = n := by decide +kernel
theorem zI_shl {a p : Nat} (hp : p < 31) (h : a * 2 ^ p < 2147483648) : zI (a : Int) <<< (zI (p : Int) &&& 31) = zI ((a * 2 ^ p : Nat) : Int) := by
  rw [zI_nat, zI_nat, zI_nat]
  exact pk_shlN _ p (zI_shc p (by omega)) (by omega)
theorem zI_shr {a p : Nat} (hp : p < 31) (h : a < 2147483648) : zI (a : Int) >>> (zI (p : Int) &&& 31) = zI ((a / 2 ^ p : Nat) : Int) := by
  rw [zI_nat, zI_nat, zI_nat]
  exact pk_shrN (by omega) _ p (zI_shc p (by omega))
