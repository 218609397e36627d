/-! ===== texts: faults, orders, plans ===== -/
def WFK (K : PD) : Prop := K.1 ≤ 60 ∧ ∀ i, i < K.1 → 33 ≤ K.2 i ∧ K.2 i ≤ 126
/-- is the k-th sign a letter of its own, L being those before -/
def okL (K : PD) (k L : Nat) : Bool := rg (K.2 k - 97) 0 7 && !(L.testBit (K.2 k - 97).toNat)
/-- the fault of an order from the k-th sign on -/
def ofr (K : PD) : Nat → Nat → Nat → Int
  | 0, _, _ => if K.1 < 5 then (K.1 : Int) else -6
  | n + 1, k, L => if okL K k L then ofr K n (k + 1) (L ||| 2 ^ (K.2 k - 97).toNat) else (k : Int)
def ofK (K : PD) : Int := ofr K K.1 0 0
theorem ofr_y {K : PD} {x : Int} {k L : Nat} (h : x = ofr K (K.1 - k) k L) (hk : k < K.1) (ho : okL K k L = true) : x = ofr K (K.1 - (k + 1)) (k + 1) (L ||| 2 ^ (K.2 k - 97).toNat) := by
  obtain ⟨n, hn⟩ : ∃ n, K.1 - k = n + 1 := ⟨K.1 - k - 1, by omega⟩
  rw [h, hn, show K.1 - (k + 1) = n by omega, ofr, if_pos ho]
theorem ofr_n {K : PD} {x : Int} {k L : Nat} (h : x = ofr K (K.1 - k) k L) (hk : k < K.1) (ho : okL K k L = false) : (k : Int) = x := by
  obtain ⟨n, hn⟩ : ∃ n, K.1 - k = n + 1 := ⟨K.1 - k - 1, by omega⟩
  rw [h, hn, ofr, if_neg (by rw [ho]; decide)]
theorem ofr_e {K : PD} {x : Int} {L : Nat} (h : x = ofr K (K.1 - K.1) K.1 L) : x = if K.1 < 5 then (K.1 : Int) else -6 := by rw [h, Nat.sub_self]; rfl
theorem okL_1 {K : PD} {k L : Nat} (h : K.2 k - 97 < 0 ∨ 7 < K.2 k - 97) : okL K k L = false := by unfold okL; rw [rg_f h]; rfl
theorem okL_2 {K : PD} {k L j : Nat} (hj : K.2 k - 97 = (j : Int)) (hb : L.testBit j = true) : okL K k L = false := by unfold okL; rw [hj, Int.toNat_natCast, hb]; simp
theorem okL_3 {K : PD} {k L j : Nat} (hj : K.2 k - 97 = (j : Int)) (hj7 : j < 8) (hb : L.testBit j = false) : okL K k L = true := by unfold okL; rw [hj, Int.toNat_natCast, hb, rg_t ⟨by omega, by omega⟩]; rfl
theorem zI_orj {L j : Nat} (hj : j < 31) : zI (L : Int) ||| (zI 1 <<< (zI (j : Int) &&& 31)) = zI ((L ||| 2 ^ j : Nat) : Int) := by rw [zI_shl1 hj, zI_or]
theorem lor_lt8 {L j : Nat} (hL : L < 256) (hj : j < 8) : L ||| 2 ^ j < 256 := Nat.or_lt_two_pow (n := 8) hL (Nat.pow_lt_pow_right (n := 8) (by decide) hj)
theorem pop_full : ∀ L, L < 256 → pop L = 8 → ∀ j, j < 8 → L.testBit j = true := by decide +kernel
theorem pop_more : ∀ L, L < 256 → ∀ j, j < 8 → L.testBit j = false → pop (L ||| 2 ^ j) = pop L + 1 := by decide +kernel
theorem okL_8 {K : PD} {k L : Nat} (hL : L < 256) (h8 : pop L = 8) : okL K k L = false := by
  by_cases h : 0 ≤ K.2 k - 97 ∧ K.2 k - 97 ≤ 7
  · exact okL_2 (j := (K.2 k - 97).toNat) (by omega) (pop_full L hL h8 _ (by omega))
  · exact okL_1 (by omega)
theorem okL_of {K : PD} {k L : Nat} (h : okL K k L = true) : (97 ≤ K.2 k ∧ K.2 k ≤ 104) ∧ L.testBit (K.2 k - 97).toNat = false := by
  unfold okL at h
  rw [Bool.and_eq_true] at h
  have := of_rg h.1
  refine ⟨by omega, ?_⟩
  cases hb : L.testBit (K.2 k - 97).toNat with
  | false => rfl
  | true => rw [hb] at h; simp at h
theorem ofr_ok {K : PD} : ∀ (n k L : Nat), n = K.1 - k → k ≤ K.1 → L < 256 → pop L = k → ofr K n k L = -6 → (5 ≤ K.1 ∧ K.1 ≤ 8) ∧ ∀ i, k ≤ i → i < K.1 → 97 ≤ K.2 i ∧ K.2 i ≤ 104
  | 0, k, L, hn, hk, hL, hp, h => by
    unfold ofr at h
    have h8 := pop_le L
    have : ¬ K.1 < 5 := fun z => by rw [if_pos z] at h; omega
    exact ⟨⟨by omega, by omega⟩, fun i h1 h2 => by omega⟩
  | n + 1, k, L, hn, hk, hL, hp, h => by
    unfold ofr at h
    by_cases ho : okL K k L = true
    · rw [if_pos ho] at h
      obtain ⟨h1, h2⟩ := okL_of ho
      have hj : (K.2 k - 97).toNat < 8 := by omega
      have := ofr_ok n (k + 1) _ (by omega) (by omega) (lor_lt8 hL hj) (by rw [pop_more L hL _ hj h2, hp]) h
      refine ⟨this.1, fun i g1 g2 => ?_⟩
      by_cases e : i = k
      · rw [e]; exact h1
      · exact this.2 i (by omega) g2
    · rw [if_neg ho] at h; omega
theorem ofK_ok {K : PD} (h : ofK K = -6) : (5 ≤ K.1 ∧ K.1 ≤ 8) ∧ ∀ i, i < K.1 → 97 ≤ K.2 i ∧ K.2 i ≤ 104 := by
  have := ofr_ok K.1 0 0 (by omega) (by omega) (by decide) (by decide) h
  exact ⟨this.1, fun i hi => this.2 i (by omega) hi⟩
theorem ofr_in {K : PD} : ∀ (n k L : Nat), n + k = K.1 → (0 ≤ ofr K n k L ∧ ofr K n k L ≤ K.1) ∨ ofr K n k L = -6
  | 0, k, L, h => by unfold ofr; split <;> omega
  | n + 1, k, L, h => by
    unfold ofr
    split
    · exact ofr_in n (k + 1) _ (by omega)
    · omega
theorem ofK_in (K : PD) : (0 ≤ ofK K ∧ ofK K ≤ K.1) ∨ ofK K = -6 := ofr_in K.1 0 0 rfl
/-- the fault of a plan: s is -2 between works, else the last of its people (-1: none yet) -/
def pfn (K : PD) (k w : Nat) (s : Int) : Option (Nat × Int) :=
  if s = -2 then (if (0 ≤ K.2 k - 97 ∧ K.2 k - 97 ≤ 7) ∧ w < 6 then some (w + 1, -1) else none)
  else if K.2 k = 59 ∧ 0 ≤ s then some (w, -2)
  else if s < K.2 k - 48 ∧ K.2 k - 48 ≤ 5 then some (w, K.2 k - 48) else none
def pfr (K : PD) : Nat → Nat → Nat → Int → Int
  | 0, _, _, s => if s = -2 then -6 else (K.1 : Int)
  | n + 1, k, w, s => match pfn K k w s with
    | some (w', s') => pfr K n (k + 1) w' s'
    | none => (k : Int)
def pfK (K : PD) : Int := pfr K K.1 0 0 (-2)
theorem pfr_y {K : PD} {x s s' : Int} {k w w' : Nat} (h : x = pfr K (K.1 - k) k w s) (hk : k < K.1) (hf : pfn K k w s = some (w', s')) : x = pfr K (K.1 - (k + 1)) (k + 1) w' s' := by
  obtain ⟨n, hn⟩ : ∃ n, K.1 - k = n + 1 := ⟨K.1 - k - 1, by omega⟩
  rw [h, hn, show K.1 - (k + 1) = n by omega, pfr, hf]
theorem pfr_n {K : PD} {x s : Int} {k w : Nat} (h : x = pfr K (K.1 - k) k w s) (hk : k < K.1) (hf : pfn K k w s = none) : (k : Int) = x := by
  obtain ⟨n, hn⟩ : ∃ n, K.1 - k = n + 1 := ⟨K.1 - k - 1, by omega⟩
  rw [h, hn, pfr, hf]
theorem pfr_e {K : PD} {x s : Int} {w : Nat} (h : x = pfr K (K.1 - K.1) K.1 w s) : x = if s = -2 then -6 else (K.1 : Int) := by rw [h, Nat.sub_self]; rfl
theorem pfr_in {K : PD} : ∀ (n k w : Nat) (s : Int), n + k = K.1 → (0 ≤ pfr K n k w s ∧ pfr K n k w s ≤ K.1) ∨ pfr K n k w s = -6
  | 0, k, w, s, h => by unfold pfr; split <;> omega
  | n + 1, k, w, s, h => by
    unfold pfr
    split
    · exact pfr_in n (k + 1) _ _ (by omega)
    · omega
theorem pfK_in (K : PD) : (0 ≤ pfK K ∧ pfK K ≤ K.1) ∨ pfK K = -6 := pfr_in K.1 0 0 (-2) rfl
theorem pfn_1 {K : PD} {k w : Nat} (h : 0 ≤ K.2 k - 97 ∧ K.2 k - 97 ≤ 7) (hw : w < 6) : pfn K k w (-2) = some (w + 1, -1) := by unfold pfn; rw [if_pos rfl, if_pos ⟨h, hw⟩]
theorem pfn_2 {K : PD} {k w : Nat} (h : ¬ ((0 ≤ K.2 k - 97 ∧ K.2 k - 97 ≤ 7) ∧ w < 6)) : pfn K k w (-2) = none := by unfold pfn; rw [if_pos rfl, if_neg h]
theorem pfn_3 {K : PD} {k w : Nat} {s : Int} (hs : 0 ≤ s) (h : K.2 k = 59) : pfn K k w s = some (w, -2) := by unfold pfn; rw [if_neg (by omega), if_pos ⟨h, hs⟩]
theorem pfn_4 {K : PD} {k w : Nat} {s : Int} (hs : -1 ≤ s) (h : ¬ (K.2 k = 59 ∧ 0 ≤ s)) (h2 : s < K.2 k - 48 ∧ K.2 k - 48 ≤ 5) : pfn K k w s = some (w, K.2 k - 48) := by unfold pfn; rw [if_neg (by omega), if_neg h, if_pos h2]
theorem pfn_5 {K : PD} {k w : Nat} {s : Int} (hs : -1 ≤ s) (h : ¬ (K.2 k = 59 ∧ 0 ≤ s)) (h2 : ¬ (s < K.2 k - 48 ∧ K.2 k - 48 ≤ 5)) : pfn K k w s = none := by unfold pfn; rw [if_neg (by omega), if_neg h, if_neg h2]
