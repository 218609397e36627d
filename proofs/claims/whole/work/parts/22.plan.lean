/-! ===== orders and plans that are read ===== -/
def uN (g : Nat → Nat) (k v : Nat) : Nat → Nat := fun j => if j = k then v else g j
theorem uN_s (g : Nat → Nat) (k v : Nat) : uN g k v k = v := by simp [uN]
theorem uN_n (g : Nat → Nat) {k j : Nat} (v : Nat) (hj : j ≠ k) : uN g k v j = g j := by simp [uN, hj]
theorem nf_u (g : Nat → Nat) (k v : Nat) : uI (nf g) k (v : Int) = nf (uN g k v) := by
  funext j
  unfold uI nf uN
  by_cases h : j = k
  · rw [if_pos h, if_pos h]
  · rw [if_neg h, if_neg h]
theorem nf_u0 (g : Nat → Nat) (k : Nat) : uI (nf g) k 0 = nf (uN g k 0) := nf_u g k 0
/-- the order of the pad's first n letters at a person's place -/
def soO (O : Nat → Int) (p : Nat) (K : PD) : Nat → Nat → Int
  | 0 => O
  | n + 1 => uI (soO O p K n) (8 * p + n) (K.2 n - 97)
/-- the people with a newly born -/
def bornF (F : FK) (p : Nat) (bi : Int) (K : PD) : FK := (F.1 ||| 2 ^ p, uI F.2.1 p bi, uI F.2.2.1 p (K.1 : Int), soO F.2.2.2 p K K.1)
theorem soO_in {O : Nat → Int} {p : Nat} {K : PD} : ∀ (n k : Nat), k < n → soO O p K n (8 * p + k) = K.2 k - 97
  | 0, k, h => absurd h (Nat.not_lt_zero _)
  | n + 1, k, h => by
    unfold soO
    by_cases e : k = n
    · rw [e, uI_s]
    · rw [uI_n _ _ (by omega)]; exact soO_in n k (by omega)
theorem soO_out {O : Nat → Int} {p : Nat} {K : PD} {j : Nat} : ∀ (n : Nat), (j < 8 * p ∨ 8 * p + n ≤ j) → soO O p K n j = O j
  | 0, _ => rfl
  | n + 1, h => by
    unfold soO
    rw [uI_n _ _ (by omega)]
    exact soO_out n (by omega)
theorem bornF_W {F : FK} {p : Nat} {bi : Int} {K : PD} (hW : WF F) (hp : p < 6) (hb : 0 ≤ bi ∧ bi ≤ 99) (hK : ofK K = -6) : WF (bornF F p bi K) := by
  obtain ⟨h1, h2⟩ := ofK_ok hK
  refine ⟨Nat.or_lt_two_pow (n := 6) hW.1 (pow6 hp), fun q hq hqb => ?_⟩
  unfold bornF at hqb ⊢
  simp only at hqb ⊢
  by_cases e : q = p
  · subst e
    rw [uI_s, uI_s]
    refine ⟨hb, by omega, fun k hk => ?_⟩
    rw [soO_in _ _ (by omega)]
    have := h2 k (by omega)
    omega
  · rw [uI_n _ _ e, uI_n _ _ e]
    rw [Nat.testBit_or, Nat.testBit_two_pow] at hqb
    have e2 : decide (p = q) = false := decide_eq_false (fun z => e z.symm)
    rw [e2, Bool.or_false] at hqb
    obtain ⟨g1, g2, g3⟩ := hW.2 q hq hqb
    refine ⟨g1, g2, fun k hk => ?_⟩
    rw [soO_out _ (by omega)]
    exact g3 k hk
/-- the plan behind one sign more, behind n -/
def rd1 (K : PD) (k : Nat) (P : PL) : PL := if 97 ≤ K.2 k ∧ K.2 k ≤ 104 then (P.1 + 1, uI P.2.1 P.1 (K.2 k - 97), uN P.2.2 P.1 0) else if 48 ≤ K.2 k ∧ K.2 k ≤ 53 then (P.1, P.2.1, uN P.2.2 (P.1 - 1) (P.2.2 (P.1 - 1) ||| 2 ^ (K.2 k - 48).toNat)) else P
def rdS (K : PD) (P : PL) : Nat → PL
  | 0 => (0, P.2)
  | n + 1 => rd1 K n (rdS K P n)
theorem rdS_a {K : PD} {P : PL} {k : Nat} (h : 97 ≤ K.2 k ∧ K.2 k ≤ 104) : rdS K P (k + 1) = ((rdS K P k).1 + 1, uI (rdS K P k).2.1 (rdS K P k).1 (K.2 k - 97), uN (rdS K P k).2.2 (rdS K P k).1 0) := by rw [rdS, rd1, if_pos h]
theorem rdS_b {K : PD} {P : PL} {k : Nat} (h : 48 ≤ K.2 k ∧ K.2 k ≤ 53) : rdS K P (k + 1) = ((rdS K P k).1, (rdS K P k).2.1, uN (rdS K P k).2.2 ((rdS K P k).1 - 1) ((rdS K P k).2.2 ((rdS K P k).1 - 1) ||| 2 ^ (K.2 k - 48).toNat)) := by rw [rdS, rd1, if_neg (by omega), if_pos h]
theorem rdS_c {K : PD} {P : PL} {k : Nat} (h : ¬ (97 ≤ K.2 k ∧ K.2 k ≤ 104)) (h2 : ¬ (48 ≤ K.2 k ∧ K.2 k ≤ 53)) : rdS K P (k + 1) = rdS K P k := by rw [rdS, rd1, if_neg h, if_neg h2]
/-- what holds behind n signs of a text without fault -/
def RI (K : PD) (P : PL) (n w : Nat) (s : Int) : Prop := (rdS K P n).1 = w ∧ w ≤ 6 ∧ (s = -2 ∨ (1 ≤ w ∧ -1 ≤ s ∧ s ≤ 5)) ∧ ∀ i, i < w → (0 ≤ (rdS K P n).2.1 i ∧ (rdS K P n).2.1 i ≤ 7) ∧ (rdS K P n).2.2 i < 64 ∧ (0 < (rdS K P n).2.2 i ∨ (i + 1 = w ∧ s = -1))
theorem RI_0 (K : PD) (P : PL) : RI K P 0 0 (-2) := ⟨rfl, by omega, Or.inl rfl, fun i hi => absurd hi (Nat.not_lt_zero _)⟩
theorem pf_step {K : PD} {k w : Nat} {s : Int} (h : pfr K (K.1 - k) k w s = -6) (hk : k < K.1) : ∃ (w' : Nat) (s' : Int), pfn K k w s = some (w', s') ∧ pfr K (K.1 - (k + 1)) (k + 1) w' s' = -6 := by
  cases hf : pfn K k w s with
  | none => have := pfr_n h.symm hk hf; omega
  | some q => exact ⟨q.1, q.2, rfl, (pfr_y h.symm hk hf).symm⟩
theorem pfn_let {K : PD} {k w w' : Nat} {s s' : Int} (h : pfn K k w s = some (w', s')) (hs : s = -2 ∨ (1 ≤ w ∧ -1 ≤ s ∧ s ≤ 5)) (hl : 97 ≤ K.2 k ∧ K.2 k ≤ 104) : s = -2 ∧ w < 6 ∧ w' = w + 1 ∧ s' = -1 := by
  unfold pfn at h
  by_cases h1 : s = -2
  · rw [if_pos h1] at h
    by_cases h2 : (0 ≤ K.2 k - 97 ∧ K.2 k - 97 ≤ 7) ∧ w < 6
    · rw [if_pos h2] at h; cases h; exact ⟨h1, h2.2, rfl, rfl⟩
    · rw [if_neg h2] at h; cases h
  · rw [if_neg h1, if_neg (by omega), if_neg (by omega)] at h; cases h
theorem pfn_dig {K : PD} {k w w' : Nat} {s s' : Int} (h : pfn K k w s = some (w', s')) (hs : s = -2 ∨ (1 ≤ w ∧ -1 ≤ s ∧ s ≤ 5)) (hl : 48 ≤ K.2 k ∧ K.2 k ≤ 53) : 1 ≤ w ∧ w' = w ∧ s' = K.2 k - 48 := by
  unfold pfn at h
  by_cases h1 : s = -2
  · rw [if_pos h1, if_neg (by omega)] at h; cases h
  · rw [if_neg h1, if_neg (by omega)] at h
    by_cases h2 : s < K.2 k - 48 ∧ K.2 k - 48 ≤ 5
    · rw [if_pos h2] at h; cases h; exact ⟨by omega, rfl, rfl⟩
    · rw [if_neg h2] at h; cases h
theorem pfn_end {K : PD} {k w w' : Nat} {s s' : Int} (h : pfn K k w s = some (w', s')) (hs : s = -2 ∨ (1 ≤ w ∧ -1 ≤ s ∧ s ≤ 5)) (h1 : ¬ (97 ≤ K.2 k ∧ K.2 k ≤ 104)) (h2 : ¬ (48 ≤ K.2 k ∧ K.2 k ≤ 53)) : K.2 k = 59 ∧ 0 ≤ s ∧ w' = w ∧ s' = -2 := by
  unfold pfn at h
  by_cases g1 : s = -2
  · rw [if_pos g1, if_neg (by omega)] at h; cases h
  · rw [if_neg g1] at h
    by_cases g2 : K.2 k = 59 ∧ 0 ≤ s
    · rw [if_pos g2] at h; cases h; exact ⟨g2.1, g2.2, rfl, rfl⟩
    · rw [if_neg g2, if_neg (by omega)] at h; cases h
theorem RI_s {K : PD} {P : PL} {k w w' : Nat} {s s' : Int} (hR : RI K P k w s) (h : pfn K k w s = some (w', s')) : RI K P (k + 1) w' s' := by
  obtain ⟨h1, h2, h3, h4⟩ := hR
  by_cases hl : 97 ≤ K.2 k ∧ K.2 k ≤ 104
  · obtain ⟨g1, g2, g3, g4⟩ := pfn_let h h3 hl
    subst g3; subst g4
    refine ⟨by rw [rdS_a hl, h1], by omega, Or.inr ⟨by omega, by omega, by omega⟩, fun i hi => ?_⟩
    rw [rdS_a hl]
    simp only
    rw [h1]
    by_cases e : i = w
    · rw [e, uI_s, uN_s]
      exact ⟨by omega, by omega, Or.inr (by simp)⟩
    · rw [uI_n _ _ e, uN_n _ _ e]
      obtain ⟨k1, k2, k3⟩ := h4 i (by omega)
      refine ⟨k1, k2, Or.inl ?_⟩
      rcases k3 with k3 | k3
      · exact k3
      · omega
  · by_cases hd : 48 ≤ K.2 k ∧ K.2 k ≤ 53
    · obtain ⟨g1, g2, g3⟩ := pfn_dig h h3 hd
      subst g2; subst g3
      refine ⟨by rw [rdS_b hd, h1], h2, Or.inr ⟨g1, by omega, by omega⟩, fun i hi => ?_⟩
      rw [rdS_b hd]
      simp only
      rw [h1]
      obtain ⟨k1, k2, k3⟩ := h4 i hi
      by_cases e : i = w' - 1
      · rw [e, uN_s]
        rw [e] at k1 k2
        have hb : (K.2 k - 48).toNat < 6 := by omega
        refine ⟨k1, Nat.or_lt_two_pow (n := 6) k2 (pow6 hb), Or.inl ?_⟩
        have h5 : 2 ^ (K.2 k - 48).toNat ≤ (rdS K P k).2.2 (w' - 1) ||| 2 ^ (K.2 k - 48).toNat := Nat.right_le_or
        have h6 : 0 < 2 ^ (K.2 k - 48).toNat := Nat.two_pow_pos _
        omega
      · rw [uN_n _ _ e]
        refine ⟨k1, k2, Or.inl ?_⟩
        rcases k3 with k3 | k3
        · exact k3
        · omega
    · obtain ⟨g1, g2, g3, g4⟩ := pfn_end h h3 hl hd
      subst g3; subst g4
      refine ⟨by rw [rdS_c hl hd, h1], h2, Or.inl rfl, fun i hi => ?_⟩
      rw [rdS_c hl hd]
      obtain ⟨k1, k2, k3⟩ := h4 i hi
      refine ⟨k1, k2, Or.inl ?_⟩
      rcases k3 with k3 | k3
      · exact k3
      · omega
theorem rdS_W {K : PD} {P : PL} {w : Nat} {s : Int} (hR : RI K P K.1 w s) (h : pfr K (K.1 - K.1) K.1 w s = -6) : WFP (rdS K P K.1) := by
  have hs : s = -2 := by
    have := pfr_e h.symm
    by_cases e : s = -2
    · exact e
    · rw [if_neg e] at this; omega
  obtain ⟨h1, h2, h3, h4⟩ := hR
  refine ⟨by omega, fun i hi => ?_⟩
  obtain ⟨k1, k2, k3⟩ := h4 i (by omega)
  refine ⟨k1, ?_, k2⟩
  rcases k3 with k3 | k3
  · exact k3
  · omega
theorem RI_run {K : PD} {P : PL} (h : pfK K = -6) : ∀ n, n ≤ K.1 → ∃ (w : Nat) (s : Int), RI K P n w s ∧ pfr K (K.1 - n) n w s = -6
  | 0, _ => ⟨0, -2, RI_0 K P, h⟩
  | n + 1, hn => by
    obtain ⟨w, s, h1, h2⟩ := RI_run h n (by omega)
    obtain ⟨w', s', h3, h4⟩ := pf_step h2 (by omega)
    exact ⟨w', s', RI_s h1 h3, h4⟩
theorem rdS_WFP {K : PD} {P : PL} (h : pfK K = -6) : WFP (rdS K P K.1) := by
  obtain ⟨w, s, h1, h2⟩ := RI_run (P := P) h K.1 (Nat.le_refl _)
  exact rdS_W h1 h2
/-- the class's answers that fork -/
def addK (K : PD) (z : Int) : PD := (K.1 + 1, uI K.2 K.1 z)
def addT (T : ST) (t s : Int) : ST := (T.1 + 1, uI T.2.1 T.1 t, uI T.2.2 T.1 s)
