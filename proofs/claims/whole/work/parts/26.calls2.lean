theorem ffr_some {f : Nat → Bool} : ∀ {n p k : Nat}, p ≤ k → k < p + n → f k = true → (∀ i, p ≤ i → i < k → f i = false) → ffr f n p = some k
  | 0, p, k, h1, h2, _, _ => absurd h2 (by omega)
  | n + 1, p, k, h1, h2, hk, hb => by
    unfold ffr
    by_cases e : p = k
    · subst e; rw [if_pos hk]
    · rw [if_neg (by rw [hb p (Nat.le_refl _) (by omega)]; decide)]
      exact ffr_some (by omega) (by omega) hk (fun i a b => hb i (by omega) b)
theorem ffr_none {f : Nat → Bool} : ∀ {n p : Nat}, (∀ i, p ≤ i → i < p + n → f i = false) → ffr f n p = none
  | 0, p, _ => rfl
  | n + 1, p, hb => by
    unfold ffr
    rw [if_neg (by rw [hb p (Nat.le_refl _) (by omega)]; decide)]
    exact ffr_none (fun i a b => hb i (by omega) (by omega))
theorem no_sA {f : Nat → Bool} {b : Bool} {a n : Nat} (h : ∀ i, a ≤ i → i < n → f i = b) (hn : f n = b) : ∀ i, a ≤ i → i < n + 1 → f i = b := fun i ha hi => by
  by_cases e : i = n
  · subst e; exact hn
  · exact h i ha (by omega)
theorem dy_per {F : FK} {p : Nat} (hs : 0 < F.2.2.1 p) (t k : Int) : dy F p (t + (k - t) % F.2.2.1 p) = dy F p k := by
  unfold dy
  have h : (t + (k - t) % F.2.2.1 p - F.2.1 p) % F.2.2.1 p = (k - F.2.1 p) % F.2.2.1 p := by
    have h1 : (k - t) % F.2.2.1 p = (k - t) - F.2.2.1 p * ((k - t) / F.2.2.1 p) := Int.emod_def _ _
    have h2 : t + (k - t) % F.2.2.1 p - F.2.1 p = (k - F.2.1 p) + F.2.2.1 p * (- ((k - t) / F.2.2.1 p)) := by
      rw [h1, Int.mul_neg]; omega
    rw [h2, Int.add_mul_emod_self_left]
  rw [h]
theorem nx_no {F : FK} (hW : WF F) {p : Nat} (hp : p < 6) (hb : F.1.testBit p = true) {D : Int} {t : Nat} (hno : ∀ i, t ≤ i → i < t + 8 → nxB F (p : Int) D i = false) (k : Nat) (hk : t ≤ k) : nxB F (p : Int) D k = false := by
  obtain ⟨_, hS, _⟩ := hW.2 p hp hb
  have h4 := Int.emod_nonneg ((k : Int) - (t : Int)) (b := F.2.2.1 p) (by omega)
  have h5 := Int.emod_lt_of_pos ((k : Int) - (t : Int)) (b := F.2.2.1 p) (by omega)
  obtain ⟨r, hr⟩ : ∃ r : Nat, ((k : Int) - (t : Int)) % F.2.2.1 p = (r : Int) := ⟨_, (Int.toNat_of_nonneg h4).symm⟩
  have h6 := hno (t + r) (by omega) (by omega)
  have h7 := dy_per (F := F) (p := p) (by omega) (t : Int) (k : Int)
  unfold nxB at h6 ⊢
  rw [dn_y hp hb] at h6 ⊢
  rw [← h7, hr, ← Int.natCast_add]
  exact h6
theorem nextR_s {F : FK} {z D t : Int} {k : Nat} (h1 : thI F z = true) (h2 : rg D 0 7 = true) (h3 : rg t 0 9999 = true) (h : ffr (nxB F z D) (10000 - t.toNat) t.toNat = some k) : nextR F z D t = (k : Int) := by
  rw [nextR, if_pos (by rw [h1, h2]; rfl), if_pos h3, h]
theorem nextR_n {F : FK} {z D t : Int} (h1 : thI F z = true) (h2 : rg D 0 7 = true) (h3 : rg t 0 9999 = true) (h : ffr (nxB F z D) (10000 - t.toNat) t.toNat = none) : nextR F z D t = -6 := by
  rw [nextR, if_pos (by rw [h1, h2]; rfl), if_pos h3, h]
theorem meetR_s {F : FK} {z t w : Int} {k : Nat} (h1 : setB F z = true) (h2 : rg t 0 9999 = true) (h3 : rg w 0 1 = true) (h : ffr (mtB F z t) 840 0 = some k) : meetR F z t w = if w = 0 then t + (k : Int) else cd F z.toNat (t + (k : Int)) := by
  rw [meetR, if_pos (by rw [h1, h2, h3]; rfl), h]
theorem meetR_n {F : FK} {z t w : Int} (h1 : setB F z = true) (h2 : rg t 0 9999 = true) (h3 : rg w 0 1 = true) (h : ffr (mtB F z t) 840 0 = none) : meetR F z t w = -6 := by
  rw [meetR, if_pos (by rw [h1, h2, h3]; rfl), h]
theorem mtB_t {F : FK} {a k : Nat} {t : Int} (h : cd F a (t + (k : Int)) ≠ -6) : mtB F (a : Int) t k = true := by
  unfold mtB; rw [Int.toNat_natCast, decide_eq_false h]; rfl
theorem mtB_f {F : FK} {a k : Nat} {t : Int} (h : cd F a (t + (k : Int)) = -6) : mtB F (a : Int) t k = false := by
  unfold mtB; rw [Int.toNat_natCast, decide_eq_true h]; rfl
theorem bit_ex {a : Nat} (h1 : 1 ≤ a) (h2 : a < 64) : ∃ q, q < 6 ∧ a.testBit q = true := by
  have h : ∀ a, a < 64 → 1 ≤ a → ∃ q, q < 6 ∧ a.testBit q = true := by decide +kernel
  exact h a h2 h1
theorem firstR_s {f : Nat → Bool} {k : Nat} (h : ffr f 840 0 = some k) : firstR f = (k : Int) := by rw [firstR, h]
theorem firstR_n {f : Nat → Bool} (h : ffr f 840 0 = none) : firstR f = -6 := by rw [firstR, h]
theorem ffr_lt {f : Nat → Bool} : ∀ {n p k : Nat}, ffr f n p = some k → p ≤ k ∧ k < p + n ∧ f k = true
  | 0, p, k, h => by unfold ffr at h; exact absurd h (by simp)
  | n + 1, p, k, h => by
    unfold ffr at h
    by_cases e : f p = true
    · rw [if_pos e] at h
      have := Option.some.inj h
      subst this
      exact ⟨Nat.le_refl _, by omega, e⟩
    · rw [if_neg e] at h
      have := ffr_lt h
      exact ⟨by omega, by omega, this.2.2⟩
theorem firstR_c (f : Nat → Bool) : (firstR f = -6 ∧ ffr f 840 0 = none) ∨ ∃ k : Nat, ffr f 840 0 = some k ∧ k < 840 ∧ firstR f = (k : Int) := by
  cases h : ffr f 840 0 with
  | none => exact Or.inl ⟨firstR_n h, rfl⟩
  | some k => exact Or.inr ⟨k, rfl, by have := (ffr_lt h).2.1; omega, firstR_s h⟩
theorem firstR_k {f : Nat → Bool} (h : firstR f ≠ -6) : ∃ k : Nat, ffr f 840 0 = some k ∧ k < 840 ∧ firstR f = (k : Int) := by
  rcases firstR_c f with ⟨h1, _⟩ | h1
  · exact absurd h1 h
  · exact h1
theorem firstR_in (f : Nat → Bool) : -6 ≤ firstR f ∧ firstR f < 840 := by
  rcases firstR_c f with ⟨h1, _⟩ | ⟨k, _, h1, h2⟩ <;> omega
theorem longR_n {f : Nat → Bool} (h : firstR f = -6) : longR f = 840 := by
  rcases firstR_c f with ⟨_, h1⟩ | ⟨k, _, _, h2⟩
  · rw [longR, h1]
  · omega
theorem longR_s {f : Nat → Bool} {k : Nat} (h : ffr f 840 0 = some k) : longR f = (rowS f k 841).2 := by rw [longR, h]
theorem rowS_in (f : Nat → Bool) (a : Nat) : ∀ n : Nat, (0 ≤ (rowS f a n).1 ∧ (rowS f a n).1 ≤ (n : Int)) ∧ 0 ≤ (rowS f a n).2 ∧ (rowS f a n).2 ≤ (n : Int)
  | 0 => by simp [rowS]
  | n + 1 => by
    have h := rowS_in f a n
    rw [rowS]
    cases f (a + n) <;> simp only [if_true, Bool.false_eq_true, if_false] <;> split <;> omega
theorem rowS_f {f : Nat → Bool} {a n : Nat} (h : f (a + n) = false) : (rowS f a (n + 1)).1 = (rowS f a n).1 + 1 ∧ (rowS f a (n + 1)).2 = if (rowS f a n).2 < (rowS f a n).1 + 1 then (rowS f a n).1 + 1 else (rowS f a n).2 := by
  rw [rowS, h]; exact ⟨rfl, rfl⟩
theorem rowS_t {f : Nat → Bool} {a n : Nat} (h : f (a + n) = true) : (rowS f a (n + 1)).1 = 0 ∧ (rowS f a (n + 1)).2 = if (rowS f a n).2 < 0 then 0 else (rowS f a n).2 := by
  rw [rowS, h]; exact ⟨rfl, rfl⟩
theorem clr_g : ∀ a, a < 64 → ∀ b, b < 64 → zI ((a : Nat) : Int) &&& (zI ((b : Nat) : Int) ^^^ zI (-1)) = zI ((a &&& (63 ^^^ b) : Nat) : Int) := by decide +kernel
theorem pop6 : ∀ a, a < 64 → pop a ≤ 6 := by decide +kernel
theorem chgN_le {F : FK} {a : Nat} (ha : a < 64) (D t : Int) : chgN F a D t ≤ 6 := pop6 _ (Nat.lt_of_le_of_lt Nat.and_le_left ha)
/-- the common change so far: the fewest, and when -/
def cmF (o : Option (Int × Int)) : Int := match o with | none => 7 | some x => x.1
def cmW (o : Option (Int × Int)) : Int := match o with | none => -6 | some x => x.2
theorem cm_idx {L d : Nat} (hd : d < 8) : (8 * L + d) % 8 = d ∧ (8 * L + d) / 8 = L := by omega
theorem cm_y {F : FK} {a : Nat} {t : Int} {L d : Nat} (hd : d < 8) (h1 : (hv F (d : Int) (t + (L : Int)) : Int) ≠ 0) (h2 : (chgN F a (d : Int) (t + (L : Int)) : Int) < cmF (cmS F a t (8 * L + d))) : cmF (cmS F a t (8 * L + (d + 1))) = (chgN F a (d : Int) (t + (L : Int)) : Int) ∧ cmW (cmS F a t (8 * L + (d + 1))) = 100 * (L : Int) + (d : Int) := by
  have e := cm_idx (L := L) hd
  have : cmS F a t (8 * L + (d + 1)) = some ((chgN F a (d : Int) (t + (L : Int)) : Int), 100 * (L : Int) + (d : Int)) := by
    show cmS F a t ((8 * L + d) + 1) = _
    rw [cmS, e.1, e.2, if_pos]
    refine ⟨fun z => h1 (by rw [z]; rfl), fun x hx => ?_⟩
    rw [hx] at h2
    exact h2
  rw [this]; exact ⟨rfl, rfl⟩
theorem cm_n {F : FK} {a : Nat} {t : Int} {L d : Nat} (ha : a < 64) (hd : d < 8) (h : (hv F (d : Int) (t + (L : Int)) : Int) = 0 ∨ cmF (cmS F a t (8 * L + d)) ≤ (chgN F a (d : Int) (t + (L : Int)) : Int)) : cmS F a t (8 * L + d) = cmS F a t (8 * L + (d + 1)) := by
  have e := cm_idx (L := L) hd
  show _ = cmS F a t ((8 * L + d) + 1)
  rw [cmS, e.1, e.2, if_neg]
  rintro ⟨h1, h2⟩
  rcases h with h | h
  · exact h1 (by omega)
  · cases hc : cmS F a t (8 * L + d) with
    | none => rw [hc] at h; have := chgN_le (F := F) ha (d : Int) (t + (L : Int)); simp only [cmF] at h; omega
    | some x => have := h2 x hc; rw [hc] at h; simp only [cmF] at h; omega
theorem cmS_in {F : FK} {a : Nat} {t : Int} (ha : a < 64) : ∀ n, (0 ≤ cmF (cmS F a t n) ∧ cmF (cmS F a t n) ≤ 7) ∧ (-6 ≤ cmW (cmS F a t n) ∧ cmW (cmS F a t n) ≤ 100 * (n : Int) + 7) ∧ (cmS F a t n = none → cmF (cmS F a t n) = 7 ∧ cmW (cmS F a t n) = -6)
  | 0 => by simp [cmS, cmF, cmW]
  | n + 1 => by
    have h := cmS_in (F := F) (t := t) ha n
    have h2 := chgN_le (F := F) ha ((n % 8 : Nat) : Int) (t + ((n / 8 : Nat) : Int))
    rw [cmS]
    split
    · exact ⟨⟨by show (0 : Int) ≤ ((chgN F a _ _ : Nat) : Int); omega, by show ((chgN F a _ _ : Nat) : Int) ≤ 7; omega⟩, ⟨by show (-6 : Int) ≤ 100 * ((n / 8 : Nat) : Int) + ((n % 8 : Nat) : Int); omega, by show 100 * ((n / 8 : Nat) : Int) + ((n % 8 : Nat) : Int) ≤ _; omega⟩, fun z => by simp at z⟩
    · exact ⟨h.1, ⟨h.2.1.1, by omega⟩, h.2.2⟩
theorem cmS_no {F : FK} {a : Nat} {t : Int} : ∀ n, cmS F a t n = none → ∀ m, m < n → hv F ((m % 8 : Nat) : Int) (t + ((m / 8 : Nat) : Int)) = 0
  | 0, _, m, hm => absurd hm (Nat.not_lt_zero _)
  | n + 1, h, m, hm => by
    rw [cmS] at h
    split at h
    · exact absurd h (by simp)
    · rename_i hc
      by_cases e : m = n
      · subst e
        exact Classical.byContradiction (fun z => hc ⟨z, fun x hx => by rw [h] at hx; exact absurd hx (by simp)⟩)
      · exact cmS_no n h m (by omega)
theorem commonR_c {F : FK} {a : Nat} {t w : Int} (hW : WF F) (h0 : ∃ q, q < 6 ∧ F.1.testBit q = true) (h1 : setB F (a : Int) = true) (h2 : rg t 0 9990 = true) (h3 : rg w 0 1 = true) : commonR F (a : Int) t w = if w = 0 then cmF (cmS F a t (8 * 7)) else cmW (cmS F a t (8 * 7)) := by
  rw [commonR, if_pos (by rw [h1, h2, h3]; rfl), Int.toNat_natCast]
  obtain ⟨p, hp, hb⟩ := h0
  have hd := hW.dy hp hb t
  obtain ⟨D, hD⟩ : ∃ D : Nat, dy F p t = (D : Int) := ⟨(dy F p t).toNat, by omega⟩
  cases hc : cmS F a t 56 with
  | some x => rfl
  | none =>
    have hn := cmS_no 56 hc D (by omega)
    rw [Nat.mod_eq_of_lt (by omega), Nat.div_eq_of_lt (by omega)] at hn
    have h4 : (hv F (D : Int) (t + ((0 : Nat) : Int))).testBit p = true := by
      unfold hv
      rw [orb_bit, decide_eq_true hp]
      unfold hvB
      rw [hb, decide_eq_true (by simp [hD])]; rfl
    rw [hn] at h4
    exact absurd h4 (by simp)
def woR (o : Option Int) : Int := match o with | none => -6 | some c => c
def wdF (o : Option (Int × Int)) : Int := match o with | none => -6 | some x => x.1
def wdW (o : Option (Int × Int)) : Int := match o with | none => -6 | some x => x.2
theorem wedR_c {F : FK} {z y w : Int} (h1 : twI F z y = true) (h2 : rg w 0 1 = true) : wedR F z y w = if w = 0 then wdF (wdS F z.toNat y.toNat 16) else wdW (wdS F z.toNat y.toNat 16) := by
  rw [wedR, if_pos h1, if_pos h2]
  cases wdS F z.toNat y.toNat 16 with
  | none => show (-6 : Int) = if w = 0 then -6 else -6; split <;> rfl
  | some x => rfl
theorem wc_2 (F : FK) (p q : Nat) : woR (wcost F p q 0) = (if 4 ≤ (shr F p q 28 : Int) then 0 else -6) ∧ woR (wcost F p q 1) = cst F p q ∧ woR (wcost F p q 2) = cst F q p := by
  refine ⟨?_, rfl, rfl⟩
  unfold wcost
  rw [if_pos rfl]
  by_cases h : 4 ≤ shr F p q 28
  · rw [if_pos h, if_pos (by omega)]; rfl
  · rw [if_neg h, if_neg (by omega)]; rfl
theorem wc_r {F : FK} {p q n r : Nat} (hn : n = r + 10) (hr : r < 6) (hb : F.1.testBit r = true) (h1 : r ≠ p) (h2 : r ≠ q) : woR (wcost F p q n) = cst F p r + cst F q r := by
  subst hn
  unfold wcost
  rw [if_neg (by omega), if_neg (by omega), if_neg (by omega), Nat.add_sub_cancel, if_pos ⟨by omega, hb, h1, h2, hr⟩]; rfl
theorem wc_n {F : FK} {p q n : Nat} (h0 : 3 ≤ n) (h : ∀ r, n = r + 10 → r < 6 → F.1.testBit r = true → r ≠ p → r ≠ q → False) : woR (wcost F p q n) = -6 := by
  unfold wcost
  rw [if_neg (by omega), if_neg (by omega), if_neg (by omega), if_neg]; rfl
  rintro ⟨a, b, c, d, e⟩
  exact h (n - 10) (by omega) e b c d
theorem wc_in (F : FK) (p q n : Nat) : wcost F p q n = none ∨ ∃ c, wcost F p q n = some c ∧ 0 ≤ c ∧ c ≤ 56 := by
  unfold wcost
  have := cst_in F p q
  have := cst_in F q p
  have := cst_in F p (n - 10)
  have := cst_in F q (n - 10)
  split
  · split
    · exact Or.inr ⟨_, rfl, by omega⟩
    · exact Or.inl rfl
  · split
    · exact Or.inr ⟨_, rfl, by omega⟩
    · split
      · exact Or.inr ⟨_, rfl, by omega⟩
      · split
        · exact Or.inr ⟨_, rfl, by omega⟩
        · exact Or.inl rfl
theorem wo_in (F : FK) (p q n : Nat) : -6 ≤ woR (wcost F p q n) ∧ woR (wcost F p q n) ≤ 56 := by
  rcases wc_in F p q n with h | ⟨c, h, h1⟩
  · rw [h]; exact ⟨by decide, by decide⟩
  · rw [h]; show -6 ≤ c ∧ c ≤ 56; omega
theorem wdS_n {F : FK} {p q n : Nat} (h : wcost F p q n = none) : wdS F p q (n + 1) = wdS F p q n := by rw [wdS, h]
theorem wdS_0 {F : FK} {p q n : Nat} {c : Int} (h : wcost F p q n = some c) (h2 : wdS F p q n = none) : wdS F p q (n + 1) = some (c, (n : Int)) := by rw [wdS, h, h2]
theorem wdS_x {F : FK} {p q n : Nat} {c : Int} {x : Int × Int} (h : wcost F p q n = some c) (h2 : wdS F p q n = some x) : wdS F p q (n + 1) = if c < x.1 then some (c, (n : Int)) else some x := by rw [wdS, h, h2]
theorem wd_in (F : FK) (p q : Nat) : ∀ n : Nat, (wdS F p q n = none ∧ wdF (wdS F p q n) = -6 ∧ wdW (wdS F p q n) = -6) ∨ (∃ x, wdS F p q n = some x ∧ (0 ≤ wdF (wdS F p q n) ∧ wdF (wdS F p q n) ≤ 56) ∧ 0 ≤ wdW (wdS F p q n) ∧ wdW (wdS F p q n) ≤ (n : Int))
  | 0 => Or.inl ⟨rfl, rfl, rfl⟩
  | n + 1 => by
    have h := wd_in F p q n
    have two : ∀ c : Int, 0 ≤ c ∧ c ≤ 56 → (∃ x, (some (c, (n : Int)) : Option (Int × Int)) = some x ∧ (0 ≤ wdF (some (c, (n : Int))) ∧ wdF (some (c, (n : Int))) ≤ 56) ∧ 0 ≤ wdW (some (c, (n : Int))) ∧ wdW (some (c, (n : Int))) ≤ ((n + 1 : Nat) : Int)) := fun c hc => ⟨_, rfl, hc, by show (0 : Int) ≤ (n : Int); omega, by show (n : Int) ≤ _; omega⟩
    rcases wc_in F p q n with hc | ⟨c, hc, h0, h1⟩
    · rw [wdS_n hc]
      rcases h with h | ⟨x, hx, h2, h3, h4⟩
      · exact Or.inl h
      · exact Or.inr ⟨x, hx, h2, h3, by omega⟩
    · rcases h with ⟨h, _⟩ | ⟨x, hx, h2, h3, h4⟩
      · rw [wdS_0 hc h]; exact Or.inr (two c ⟨h0, h1⟩)
      · rw [wdS_x hc hx]
        split
        · exact Or.inr (two c ⟨h0, h1⟩)
        · rw [hx] at h2 h3 h4
          exact Or.inr ⟨_, rfl, h2, h3, by omega⟩
theorem wd_b {F : FK} {p q n : Nat} : (wdF (wdS F p q n) : Int) ≤ 56 ∧ -6 ≤ wdF (wdS F p q n) ∧ wdW (wdS F p q n) ≤ (n : Int) ∧ -6 ≤ wdW (wdS F p q n) := by
  rcases wd_in F p q n with ⟨_, h1, h2⟩ | ⟨x, _, h1, h2⟩ <;> omega
theorem wd_n {F : FK} {p q n : Nat} (h : woR (wcost F p q n) = -6 ∨ (wdF (wdS F p q n) ≠ -6 ∧ wdF (wdS F p q n) ≤ woR (wcost F p q n))) : wdS F p q n = wdS F p q (n + 1) := by
  rcases wc_in F p q n with hc | ⟨c, hc, h0, h1⟩
  · exact (wdS_n hc).symm
  · rcases h with h | ⟨h, h2⟩
    · rw [hc] at h; exact absurd h (by show c ≠ -6; omega)
    · rcases wd_in F p q n with ⟨hx, h3, _⟩ | ⟨x, hx, _⟩
      · exact absurd h3 h
      · rw [hc, hx] at h2
        rw [wdS_x hc hx, if_neg (by have : x.1 ≤ c := h2; omega), hx]
theorem wd_y {F : FK} {p q n : Nat} (h : woR (wcost F p q n) ≠ -6) (h2 : wdF (wdS F p q n) = -6 ∨ woR (wcost F p q n) < wdF (wdS F p q n)) : wdF (wdS F p q (n + 1)) = woR (wcost F p q n) ∧ wdW (wdS F p q (n + 1)) = (n : Int) := by
  rcases wc_in F p q n with hc | ⟨c, hc, h0, h1⟩
  · rw [hc] at h; exact absurd rfl h
  · rcases wd_in F p q n with ⟨hx, h3, _⟩ | ⟨x, hx, h3, h4⟩
    · rw [wdS_0 hc hx, hc]; exact ⟨rfl, rfl⟩
    · have hlt : c < x.1 := by
        rw [hx] at h3; rw [hc, hx] at h2
        have h5 : 0 ≤ x.1 := h3.1
        rcases h2 with h2 | h2
        · have h6 : x.1 = -6 := h2; omega
        · exact h2
      rw [wdS_x hc hx, if_pos hlt, hc]; exact ⟨rfl, rfl⟩
theorem bs_in (F : FK) (bi : Int) : ∀ n : Nat, (-1 ≤ (bsS F bi n).1 ∧ (bsS F bi n).1 ≤ 14) ∧ -6 ≤ (bsS F bi n).2 ∧ (bsS F bi n).2 ≤ 10 * (n : Int) + 6
  | 0 => by simp [bsS]
  | n + 1 => by
    have h := bs_in F bi n
    have h2 := fsh_in F ((n % 7 : Nat) : Int) ((n / 7 : Nat) : Int) bi 6
    rw [bsS]
    split
    · exact ⟨⟨by show (-1 : Int) ≤ fsh F _ _ bi 6; omega, by show fsh F _ _ bi 6 ≤ 14; omega⟩, by show (-6 : Int) ≤ 10 * ((n / 7 : Nat) : Int) + ((n % 7 : Nat) : Int); omega, by show 10 * ((n / 7 : Nat) : Int) + ((n % 7 : Nat) : Int) ≤ _; omega⟩
    · exact ⟨h.1, h.2.1, by omega⟩
theorem bs_n {F : FK} {bi : Int} {W T : Nat} (hT : T < 7) (h : fsh F (T : Int) (W : Int) bi 6 ≤ (bsS F bi (7 * W + T)).1) : bsS F bi (7 * W + T) = bsS F bi (7 * W + (T + 1)) := by
  have e : (7 * W + T) % 7 = T ∧ (7 * W + T) / 7 = W := by omega
  show _ = bsS F bi ((7 * W + T) + 1)
  rw [bsS, e.1, e.2, if_neg (by omega)]
theorem bs_y {F : FK} {bi : Int} {W T : Nat} (hT : T < 7) (h : (bsS F bi (7 * W + T)).1 < fsh F (T : Int) (W : Int) bi 6) : bsS F bi (7 * W + (T + 1)) = (fsh F (T : Int) (W : Int) bi 6, 10 * (W : Int) + (T : Int)) := by
  have e : (7 * W + T) % 7 = T ∧ (7 * W + T) / 7 = W := by omega
  show bsS F bi ((7 * W + T) + 1) = _
  rw [bsS, e.1, e.2, if_pos h]
section
variable {G : GG} {l : Launch}
variable {h : Hp} {A : Nat → Nat} {N : Nat} {K : PD} {F : FK} {P : PL} {T : ST} {V : Nat → Int} {O : MO} {im : Nat → Option Nat} {IL : Nat → LQ} {X : MX}
set_option maxHeartbeats 4000000 in
set_option maxRecDepth 20000 in
theorem c_X6_next (d : Nat) (hA : inA A N) (hK : WFK K) (hW : WF F) (hP : WFP P) (hT : WFT T) (z D t : Int) (hz : inR z) (hD : inR D) (ht : inR t) : CT G l mX6_next (d + 4) 0 0 [.ref (A 11), .int (zI (z)), .int (zI (D)), .int (zI (t))] (HP G h A N (K, (F, P, T, V), O, im, IL) X) (RQ (HP G h A N (K, (F, P, T, V), O, im, IL) X) (nextR F z D t)) := by
  refine CT.of (by decide) (Nat.le_of_ble_eq_true rfl) (List.forall_mem_cons.mpr ⟨rfl, List.forall_mem_cons.mpr ⟨rfl, List.forall_mem_cons.mpr ⟨rfl, List.forall_mem_cons.mpr ⟨rfl, fun _ h => absurd h List.not_mem_nil⟩⟩⟩⟩) ?_
  refine EV.lvs (lv' := [some (.ref (A 11)), some (.int (zI (z))), some (.int (zI (D))), some (.int (zI (t))), none]) rfl ?_
  have g11 : (HP G h A N (K, (F, P, T, V), O, im, IL) X) (A 11) = some (obj 6 [.ref (A 12), .ref (A 14), .ref (A 26), .ref (A 27)]) := hGet hA _ _ 11 (by decide)
  have g14 : (HP G h A N (K, (F, P, T, V), O, im, IL) X) (A 14) = some (obj 1 [.ref (A 15), .ref (A 20), .ref (A 23)]) := hGet hA _ _ 14 (by decide)
  have g15 : (HP G h A N (K, (F, P, T, V), O, im, IL) X) (A 15) = some (obj 0 [.int (zI ((F.1 : Int))), .ref (A 16), .ref (A 17), .ref (A 18), .ref (A 19)]) := hGet hA _ _ 15 (by decide)
  have hK6 := hK.1
  have hP6 := hP.1
  have hT6 := hT.1
  have hth := hW.1
  have hF : FolkAt G (HP G h A N (K, (F, P, T, V), O, im, IL) X) F (A 15) (A 16) (A 17) (A 18) (A 19) V := hFolk hA
  refine EV.aload_n (i := 0) dX6_next_0 rfl rfl ?_
  refine EV.iload_n (i := 1) dX6_next_1 rfl rfl ?_
  refine EV.callVr (M' := mX6_isThere) (as := [.int (zI (z))]) (rest := []) ml_X6_69 im_X6_isThere se_X6_isThere rfl co_X6_isThere dX6_next_2 g11 (c_X6_isThere (d + 0) hA hK hW hP hT z (by omega)) rfl rfl (Nat.le_of_ble_eq_true rfl) ?_
  refine EV.ifeqB (t := 17) dX6_next_5 (by decide) (fun c5 => ?_) (fun c5 => ?_)
  · skip
    refine EV.iconst dX6_next_17 ?_
    refine EV.iret rfl dX6_next_18 ?_
    exact rQ (by simp [nextR, c5])
  · skip
    refine EV.iload_n (i := 2) dX6_next_8 rfl rfl ?_
    refine EV.bipush dX6_next_9 (by decide) ?_
    refine EV.callSr (M' := mX6_isOneOf) (as := [.int (zI (D)), .int (zI (8))]) (rest := []) ml_X6_42 sm_X6_isOneOf co_X6_isOneOf dX6_next_11 (c_X6_isOneOfL (d + 2) D 8 7 rfl (by omega) (by omega)) rfl rfl (Nat.le_of_ble_eq_true rfl) ?_
    refine EV.ifneB (t := 19) dX6_next_14 (by decide) (fun c14 => ?_) (fun c14 => ?_)
    · skip
      have c14r := of_rg c14
      refine EV.iload_n (i := 3) dX6_next_19 rfl rfl ?_
      refine EV.callSr (M' := mX6_isDate) (as := [.int (zI (t))]) (rest := []) ml_X6_92 sm_X6_isDate co_X6_isDate dX6_next_20 (c_X6_isDate (d + 2) t (by omega)) rfl rfl (Nat.le_of_ble_eq_true rfl) ?_
      refine EV.ifneB (t := 29) dX6_next_23 (by decide) (fun c23 => ?_) (fun c23 => ?_)
      · skip
        have c23r := of_rg c23
        obtain ⟨tn, rfl⟩ : ∃ tn : Nat, t = (tn : Int) := ⟨t.toNat, by omega⟩
        obtain ⟨p, hp, rfl, hbp⟩ := thI_p c5
        refine EV.iload_n (i := 3) dX6_next_29 rfl rfl ?_
        refine EV.istore (i := 4) (lv' := [some (.ref (A 11)), some (.int (zI ((p : Int)))), some (.int (zI (D))), some (.int (zI ((tn : Int)))), some (.int (zI ((tn : Int))))]) dX6_next_30 (by decide) rfl ?_
        have L32 : ∀ (n32 : Nat) (u : Nat) (x4 : Int), (tn ≤ u) → (u ≤ tn + 8) → (∀ i, tn ≤ i → i < u → nxB F (p : Int) D i = false) → tn + 8 - u < n32 → x4 = (u : Int) → EV G l mX6_next (d + 4) (RQ (HP G h A N (K, (F, P, T, V), O, im, IL) X) (nextR F (p : Int) D (tn : Int))) 32 [some (.ref (A 11)), some (.int (zI ((p : Int)))), some (.int (zI (D))), some (.int (zI ((tn : Int)))), some (.int (zI (x4)))] [] (HP G h A N (K, (F, P, T, V), O, im, IL) X) 0 0 := by
          intro n32
          induction n32 with
          | zero => intro _ _ _ _ _ hm; exact absurd hm (Nat.not_lt_zero _)
          | succ n32 ih32 =>
            intro u x4 hu hu8 hno hm32 e4
            subst e4
            refine EV.iload (i := 4) dX6_next_32 rfl ?_
            refine EV.sipush dX6_next_34 (by decide) ?_
            refine EV.icmp_gt (t := 75) dX6_next_37 (by decide) (by omega) (fun c37 => ?_) (fun c37 => ?_)
            · skip
              refine EV.bipush dX6_next_75 (by decide) ?_
              refine EV.iret rfl dX6_next_77 ?_
              exact rQ (nextR_n c5 c14 c23 (by rw [Int.toNat_natCast]; exact ffr_none (fun i a b => hno i a (by omega)))).symm
            · skip
              refine EV.iload (i := 4) dX6_next_40 rfl ?_
              refine EV.iload_n (i := 3) dX6_next_42 rfl rfl ?_
              refine EV.bipush dX6_next_43 (by decide) ?_
              refine EV.iadd dX6_next_45 ?_
              refine EV.icmp_ge (t := 75) dX6_next_46 (by decide) (by omega) (fun c46 => ?_) (fun c46 => ?_)
              · skip
                refine EV.bipush dX6_next_75 (by decide) ?_
                refine EV.iret rfl dX6_next_77 ?_
                exact rQ (nextR_n c5 c14 c23 (by rw [Int.toNat_natCast]; exact ffr_none (fun i a _ => nx_no hW hp hbp (fun j a b => hno j a (by omega)) i a))).symm
              · skip
                refine EV.aload_n (i := 0) dX6_next_49 rfl rfl ?_
                refine EV.getf fl_X6_19 dX6_next_50 g11 rfl ?_
                refine EV.getf fl_X6_56 dX6_next_53 g14 rfl ?_
                refine EV.iload_n (i := 1) dX6_next_56 rfl rfl ?_
                refine EV.iload (i := 4) dX6_next_57 rfl ?_
                refine EV.callVr (M' := mX0_dayOn) (as := [.int (zI ((p : Int))), .int (zI ((u : Int)))]) (rest := []) ml_X6_95 im_X0_dayOn se_X0_dayOn rfl co_X0_dayOn dX6_next_59 g15 (c_X0_dayOn (d + 1) hF hW (p : Int) (u : Int) (by omega) (by omega)) rfl rfl (Nat.le_of_ble_eq_true rfl) ?_
                have hdb := hW.dnr (p : Int) (u : Int)
                refine EV.iload_n (i := 2) dX6_next_62 rfl rfl ?_
                refine EV.icmp_ne (t := 69) dX6_next_63 (by decide) (by omega) (fun c63 => ?_) (fun c63 => ?_)
                · skip
                  refine EV.iinc (i := 4) (lv' := [some (.ref (A 11)), some (.int (zI ((p : Int)))), some (.int (zI (D))), some (.int (zI ((tn : Int)))), some (.int (zI ((u : Int) + 1)))]) dX6_next_69 rfl (by decide) rfl ?_
                  refine EV.goto (t := 32) dX6_next_72 (by decide) ?_
                  exact ih32 (u + 1) _ (by omega) (by omega) (no_sA hno (decide_eq_false c63)) (by omega) (by rfl)
                · skip
                  refine EV.iload (i := 4) dX6_next_66 rfl ?_
                  refine EV.iret rfl dX6_next_68 ?_
                  exact rQ (nextR_s c5 c14 c23 (by rw [Int.toNat_natCast]; exact ffr_some hu (by omega) (decide_eq_true c63) hno)).symm
        exact L32 _ tn _ (by omega) (by omega) (fun i a b => absurd a (by omega)) (Nat.lt_succ_self _) (by rfl)
      · skip
        have c23r := of_nrg c23
        refine EV.bipush dX6_next_26 (by decide) ?_
        refine EV.iret rfl dX6_next_28 ?_
        exact rQ (by simp [nextR, c5, c14, c23])
    · skip
      have c14r := of_nrg c14
      refine EV.iconst dX6_next_17 ?_
      refine EV.iret rfl dX6_next_18 ?_
      exact rQ (by simp [nextR, c5, c14])
set_option maxHeartbeats 4000000 in
set_option maxRecDepth 20000 in
theorem c_X6_meet (d : Nat) (hA : inA A N) (hK : WFK K) (hW : WF F) (hP : WFP P) (hT : WFT T) (z t w : Int) (hz : inR z) (ht : inR t) (hw : inR w) : CT G l mX6_meet (d + 4) 0 0 [.ref (A 11), .int (zI (z)), .int (zI (t)), .int (zI (w))] (HP G h A N (K, (F, P, T, V), O, im, IL) X) (RQ (HP G h A N (K, (F, P, T, V), O, im, IL) X) (meetR F z t w)) := by
  refine CT.of (by decide) (Nat.le_of_ble_eq_true rfl) (List.forall_mem_cons.mpr ⟨rfl, List.forall_mem_cons.mpr ⟨rfl, List.forall_mem_cons.mpr ⟨rfl, List.forall_mem_cons.mpr ⟨rfl, fun _ h => absurd h List.not_mem_nil⟩⟩⟩⟩) ?_
  refine EV.lvs (lv' := [some (.ref (A 11)), some (.int (zI (z))), some (.int (zI (t))), some (.int (zI (w))), none, none]) rfl ?_
  have g11 : (HP G h A N (K, (F, P, T, V), O, im, IL) X) (A 11) = some (obj 6 [.ref (A 12), .ref (A 14), .ref (A 26), .ref (A 27)]) := hGet hA _ _ 11 (by decide)
  have g14 : (HP G h A N (K, (F, P, T, V), O, im, IL) X) (A 14) = some (obj 1 [.ref (A 15), .ref (A 20), .ref (A 23)]) := hGet hA _ _ 14 (by decide)
  have g15 : (HP G h A N (K, (F, P, T, V), O, im, IL) X) (A 15) = some (obj 0 [.int (zI ((F.1 : Int))), .ref (A 16), .ref (A 17), .ref (A 18), .ref (A 19)]) := hGet hA _ _ 15 (by decide)
  have hK6 := hK.1
  have hP6 := hP.1
  have hT6 := hT.1
  have hth := hW.1
  have hF : FolkAt G (HP G h A N (K, (F, P, T, V), O, im, IL) X) F (A 15) (A 16) (A 17) (A 18) (A 19) V := hFolk hA
  refine EV.aload_n (i := 0) dX6_meet_0 rfl rfl ?_
  refine EV.iload_n (i := 1) dX6_meet_1 rfl rfl ?_
  refine EV.callVr (M' := mX6_isSetOfThere) (as := [.int (zI (z))]) (rest := []) ml_X6_102 im_X6_isSetOfThere se_X6_isSetOfThere rfl co_X6_isSetOfThere dX6_meet_2 g11 (c_X6_isSetOfThere (d + 2) hA hK hW hP hT z (by omega)) rfl rfl (Nat.le_of_ble_eq_true rfl) ?_
  refine EV.ifeqB (t := 23) dX6_meet_5 (by decide) (fun c5 => ?_) (fun c5 => ?_)
  · skip
    refine EV.bipush dX6_meet_23 (by decide) ?_
    refine EV.iret rfl dX6_meet_25 ?_
    exact rQ (by simp [meetR, c5])
  · skip
    refine EV.iload_n (i := 2) dX6_meet_8 rfl rfl ?_
    refine EV.callSr (M' := mX6_isDate) (as := [.int (zI (t))]) (rest := []) ml_X6_92 sm_X6_isDate co_X6_isDate dX6_meet_9 (c_X6_isDate (d + 2) t (by omega)) rfl rfl (Nat.le_of_ble_eq_true rfl) ?_
    refine EV.ifeqB (t := 23) dX6_meet_12 (by decide) (fun c12 => ?_) (fun c12 => ?_)
    · skip
      have c12r := of_nrg c12
      refine EV.bipush dX6_meet_23 (by decide) ?_
      refine EV.iret rfl dX6_meet_25 ?_
      exact rQ (by simp [meetR, c5, c12])
    · skip
      have c12r := of_rg c12
      refine EV.iload_n (i := 3) dX6_meet_15 rfl rfl ?_
      refine EV.iconst dX6_meet_16 ?_
      refine EV.callSr (M' := mX6_isOneOf) (as := [.int (zI (w)), .int (zI (2))]) (rest := []) ml_X6_42 sm_X6_isOneOf co_X6_isOneOf dX6_meet_17 (c_X6_isOneOfL (d + 2) w 2 1 rfl (by omega) (by omega)) rfl rfl (Nat.le_of_ble_eq_true rfl) ?_
      refine EV.ifneB (t := 26) dX6_meet_20 (by decide) (fun c20 => ?_) (fun c20 => ?_)
      · skip
        have c20r := of_rg c20
        obtain ⟨a, rfl, ha1, ha6, hsa⟩ := setB_of c5
        have hsub := sub_bit hsa
        have hs := bit_ex ha1 ha6
        refine EV.iload_n (i := 2) dX6_meet_26 rfl rfl ?_
        refine EV.istore (i := 4) (lv' := [some (.ref (A 11)), some (.int (zI ((a : Int)))), some (.int (zI (t))), some (.int (zI (w))), some (.int (zI (t))), none]) dX6_meet_27 (by decide) rfl ?_
        have L29 : ∀ (n29 : Nat) (k : Nat) (x4 : Int), (k ≤ 840) → (∀ i, i < k → mtB F (a : Int) t i = false) → 840 - k < n29 → x4 = (t + (k : Int)) → EV G l mX6_meet (d + 4) (RQ (HP G h A N (K, (F, P, T, V), O, im, IL) X) (meetR F (a : Int) t w)) 29 [some (.ref (A 11)), some (.int (zI ((a : Int)))), some (.int (zI (t))), some (.int (zI (w))), some (.int (zI (x4))), none] [] (HP G h A N (K, (F, P, T, V), O, im, IL) X) 0 0 := by
          intro n29
          induction n29 with
          | zero => intro _ _ _ _ hm; exact absurd hm (Nat.not_lt_zero _)
          | succ n29 ih29 =>
            intro k x4 hk hno hm29 e4
            subst e4
            refine EV.iload (i := 4) dX6_meet_29 rfl ?_
            refine EV.iload_n (i := 2) dX6_meet_31 rfl rfl ?_
            refine EV.sipush dX6_meet_32 (by decide) ?_
            refine EV.iadd dX6_meet_35 ?_
            refine EV.icmp_ge (t := 79) dX6_meet_36 (by decide) (by omega) (fun c36 => ?_) (fun c36 => ?_)
            · skip
              obtain rfl : k = 840 := by omega
              refine EV.bipush dX6_meet_79 (by decide) ?_
              refine EV.iret rfl dX6_meet_81 ?_
              exact rQ (meetR_n c5 c12 c20 (ffr_none (fun i _ b => hno i (by omega)))).symm
            · skip
              refine EV.aload_n (i := 0) dX6_meet_39 rfl rfl ?_
              refine EV.getf fl_X6_19 dX6_meet_40 g11 rfl ?_
              refine EV.getf fl_X6_56 dX6_meet_43 g14 rfl ?_
              refine EV.iload_n (i := 1) dX6_meet_46 rfl rfl ?_
              refine EV.iload (i := 4) dX6_meet_47 rfl ?_
              refine EV.callVr (M' := mX0_commonDay) (as := [.int (zI ((a : Int))), .int (zI ((t + (k : Int))))]) (rest := []) ml_X6_105 im_X0_commonDay se_X0_commonDay rfl co_X0_commonDay dX6_meet_49 g15 (c_X0_commonDay (d + 0) hF hW a (t + (k : Int)) (by omega) hs hsub (by omega)) rfl rfl (Nat.le_of_ble_eq_true rfl) ?_
              have hcb2 := cd_in F a (t + (k : Int))
              refine EV.istore (i := 5) (lv' := [some (.ref (A 11)), some (.int (zI ((a : Int)))), some (.int (zI (t))), some (.int (zI (w))), some (.int (zI ((t + (k : Int))))), some (.int (zI (cd F a (t + (k : Int)))))]) dX6_meet_52 (by decide) rfl ?_
              refine EV.iload (i := 5) dX6_meet_54 rfl ?_
              refine EV.bipush dX6_meet_56 (by decide) ?_
              refine EV.icmp_eq (t := 73) dX6_meet_58 (by decide) (by omega) (fun c58 => ?_) (fun c58 => ?_)
              · skip
                refine EV.iinc (i := 4) (lv' := [some (.ref (A 11)), some (.int (zI ((a : Int)))), some (.int (zI (t))), some (.int (zI (w))), some (.int (zI ((t + (k : Int)) + 1))), some (.int (zI (cd F a (t + (k : Int)))))]) dX6_meet_73 rfl (by decide) rfl ?_
                refine EV.goto (t := 29) dX6_meet_76 (by decide) ?_
                refine EV.drop 5 (lv' := [some (.ref (A 11)), some (.int (zI ((a : Int)))), some (.int (zI (t))), some (.int (zI (w))), some (.int (zI (((t + (k : Int)) + 1)))), none]) rfl ?_
                exact ih29 (k + 1) _ (by omega) (no_step hno (mtB_f c58)) (by omega) (by omega)
              · skip
                refine EV.iload_n (i := 3) dX6_meet_61 rfl rfl ?_
                refine EV.ifne (t := 70) dX6_meet_62 (by decide) (by omega) (fun c62 => ?_) (fun c62 => ?_)
                · skip
                  refine EV.iload (i := 5) dX6_meet_70 rfl ?_
                  refine EV.iret rfl dX6_meet_72 ?_
                  exact rQ (by rw [meetR_s c5 c12 c20 (ffr_some (Nat.zero_le _) (by omega : k < 0 + 840) (mtB_t c58) (fun i _ b => hno i b)), if_neg c62, Int.toNat_natCast])
                · skip
                  refine EV.iload (i := 4) dX6_meet_65 rfl ?_
                  refine EV.goto (t := 72) dX6_meet_67 (by decide) ?_
                  refine EV.iret rfl dX6_meet_72 ?_
                  exact rQ (by rw [meetR_s c5 c12 c20 (ffr_some (Nat.zero_le _) (by omega : k < 0 + 840) (mtB_t c58) (fun i _ b => hno i b)), if_pos c62])
        exact L29 _ 0 _ (by omega) (no_0) (Nat.lt_succ_self _) (by omega)
      · skip
        have c20r := of_nrg c20
        refine EV.bipush dX6_meet_23 (by decide) ?_
        refine EV.iret rfl dX6_meet_25 ?_
        exact rQ (by simp [meetR, c5, c12, c20])
set_option maxHeartbeats 4000000 in
set_option maxRecDepth 20000 in
theorem c_X6_isMarket (d : Nat) (hA : inA A N) (hK : WFK K) (hW : WF F) (hP : WFP P) (hT : WFT T) (D m : Int) (t : Nat) (hD : 0 ≤ D ∧ D ≤ 7) (hm : inR m) (ht : t ≤ 100000) : CT G l mX6_isMarket (d + 4) 0 0 [.ref (A 11), .int (zI (D)), .int (zI (m)), .int (zI ((t : Int)))] (HP G h A N (K, (F, P, T, V), O, im, IL) X) (RQ (HP G h A N (K, (F, P, T, V), O, im, IL) X) (bI (mkB F D m t))) := by
  refine CT.of (by decide) (Nat.le_of_ble_eq_true rfl) (List.forall_mem_cons.mpr ⟨rfl, List.forall_mem_cons.mpr ⟨rfl, List.forall_mem_cons.mpr ⟨rfl, List.forall_mem_cons.mpr ⟨rfl, fun _ h => absurd h List.not_mem_nil⟩⟩⟩⟩) ?_
  refine EV.lvs (lv' := [some (.ref (A 11)), some (.int (zI (D))), some (.int (zI (m))), some (.int (zI ((t : Int))))]) rfl ?_
  have g11 : (HP G h A N (K, (F, P, T, V), O, im, IL) X) (A 11) = some (obj 6 [.ref (A 12), .ref (A 14), .ref (A 26), .ref (A 27)]) := hGet hA _ _ 11 (by decide)
  have g14 : (HP G h A N (K, (F, P, T, V), O, im, IL) X) (A 14) = some (obj 1 [.ref (A 15), .ref (A 20), .ref (A 23)]) := hGet hA _ _ 14 (by decide)
  have g15 : (HP G h A N (K, (F, P, T, V), O, im, IL) X) (A 15) = some (obj 0 [.int (zI ((F.1 : Int))), .ref (A 16), .ref (A 17), .ref (A 18), .ref (A 19)]) := hGet hA _ _ 15 (by decide)
  have hK6 := hK.1
  have hP6 := hP.1
  have hT6 := hT.1
  have hth := hW.1
  have hF : FolkAt G (HP G h A N (K, (F, P, T, V), O, im, IL) X) F (A 15) (A 16) (A 17) (A 18) (A 19) V := hFolk hA
  refine EV.aload_n (i := 0) dX6_isMarket_0 rfl rfl ?_
  refine EV.getf fl_X6_19 dX6_isMarket_1 g11 rfl ?_
  refine EV.getf fl_X6_56 dX6_isMarket_4 g14 rfl ?_
  refine EV.iload_n (i := 1) dX6_isMarket_7 rfl rfl ?_
  refine EV.iload_n (i := 3) dX6_isMarket_8 rfl rfl ?_
  refine EV.callVr (M' := mX0_having) (as := [.int (zI (D)), .int (zI ((t : Int)))]) (rest := []) ml_X6_99 im_X0_having se_X0_having rfl co_X0_having dX6_isMarket_9 g15 (c_X0_having (d + 0) hF hW D (t : Int) (by omega) (by omega)) rfl rfl (Nat.le_of_ble_eq_true rfl) ?_
  have hvl := hv_lt F D (t : Int)
  refine EV.callSr (M' := mJ6_bitCount_0f7a4) (as := [.int (zI ((hv F D (t : Int) : Int)))]) (rest := []) ml_X6_75 sm_J6_bitCount_0f7a4 co_J6_bitCount_0f7a4 dX6_isMarket_12 (c_J6_bitCount_0f7a4 (d + 2) (hv F D (t : Int)) (by omega)) rfl rfl (Nat.le_of_ble_eq_true rfl) ?_
  refine EV.iload_n (i := 2) dX6_isMarket_15 rfl rfl ?_
  have hpl := pop_le (hv F D (t : Int))
  refine EV.icmp_lt (t := 23) dX6_isMarket_16 (by decide) (by omega) (fun c16 => ?_) (fun c16 => ?_)
  · skip
    refine EV.iconst dX6_isMarket_23 ?_
    refine EV.zret rfl (by decide) dX6_isMarket_24 ?_
    exact rQ (bI_f (decide_eq_false (by omega)))
  · skip
    refine EV.iconst dX6_isMarket_19 ?_
    refine EV.goto (t := 24) dX6_isMarket_20 (by decide) ?_
    refine EV.zret rfl (by decide) dX6_isMarket_24 ?_
    exact rQ (bI_t (decide_eq_true (by omega)))
set_option maxHeartbeats 4000000 in
set_option maxRecDepth 20000 in
theorem c_X6_countMarkets (d : Nat) (hA : inA A N) (hK : WFK K) (hW : WF F) (hP : WFP P) (hT : WFT T) (D m : Int) (hD : 0 ≤ D ∧ D ≤ 7) (hm : inR m) : CT G l mX6_countMarkets (d + 5) 0 0 [.ref (A 11), .int (zI (D)), .int (zI (m))] (HP G h A N (K, (F, P, T, V), O, im, IL) X) (RQ (HP G h A N (K, (F, P, T, V), O, im, IL) X) ((cnt (mkB F D m) 840 : Int))) := by
  refine CT.of (by decide) (Nat.le_of_ble_eq_true rfl) (List.forall_mem_cons.mpr ⟨rfl, List.forall_mem_cons.mpr ⟨rfl, List.forall_mem_cons.mpr ⟨rfl, fun _ h => absurd h List.not_mem_nil⟩⟩⟩) ?_
  refine EV.lvs (lv' := [some (.ref (A 11)), some (.int (zI (D))), some (.int (zI (m))), none, none]) rfl ?_
  have g11 : (HP G h A N (K, (F, P, T, V), O, im, IL) X) (A 11) = some (obj 6 [.ref (A 12), .ref (A 14), .ref (A 26), .ref (A 27)]) := hGet hA _ _ 11 (by decide)
  have hK6 := hK.1
  have hP6 := hP.1
  have hT6 := hT.1
  have hth := hW.1
  have hF : FolkAt G (HP G h A N (K, (F, P, T, V), O, im, IL) X) F (A 15) (A 16) (A 17) (A 18) (A 19) V := hFolk hA
  refine EV.iconst dX6_countMarkets_0 ?_
  refine EV.istore_n (i := 3) (lv' := [some (.ref (A 11)), some (.int (zI (D))), some (.int (zI (m))), some (.int (zI (0))), none]) dX6_countMarkets_1 rfl (by decide) rfl ?_
  refine EV.iconst dX6_countMarkets_2 ?_
  refine EV.istore (i := 4) (lv' := [some (.ref (A 11)), some (.int (zI (D))), some (.int (zI (m))), some (.int (zI (0))), some (.int (zI (0)))]) dX6_countMarkets_3 (by decide) rfl ?_
  have L5 : ∀ (n5 : Nat) (t : Nat) (x3 x4 : Int), (t ≤ 840) → 840 - t < n5 → x3 = ((cnt (mkB F D m) t : Nat) : Int) → x4 = (t : Int) → EV G l mX6_countMarkets (d + 5) (RQ (HP G h A N (K, (F, P, T, V), O, im, IL) X) ((cnt (mkB F D m) 840 : Int))) 5 [some (.ref (A 11)), some (.int (zI (D))), some (.int (zI (m))), some (.int (zI (x3))), some (.int (zI (x4)))] [] (HP G h A N (K, (F, P, T, V), O, im, IL) X) 0 0 := by
    intro n5
    induction n5 with
    | zero => intro _ _ _ _ hm; exact absurd hm (Nat.not_lt_zero _)
    | succ n5 ih5 =>
      intro t x3 x4 ht hm5 e3 e4
      subst e3 e4
      have hcl := cnt_le (mkB F D m) t
      refine EV.iload (i := 4) dX6_countMarkets_5 rfl ?_
      refine EV.sipush dX6_countMarkets_7 (by decide) ?_
      refine EV.icmp_ge (t := 33) dX6_countMarkets_10 (by decide) (by omega) (fun c10 => ?_) (fun c10 => ?_)
      · skip
        obtain rfl : t = 840 := by omega
        refine EV.iload_n (i := 3) dX6_countMarkets_33 rfl rfl ?_
        refine EV.iret rfl dX6_countMarkets_34 ?_
        exact rQ rfl
      · skip
        refine EV.aload_n (i := 0) dX6_countMarkets_13 rfl rfl ?_
        refine EV.iload_n (i := 1) dX6_countMarkets_14 rfl rfl ?_
        refine EV.iload_n (i := 2) dX6_countMarkets_15 rfl rfl ?_
        refine EV.iload (i := 4) dX6_countMarkets_16 rfl ?_
        refine EV.callVr (M' := mX6_isMarket) (as := [.int (zI (D)), .int (zI (m)), .int (zI ((t : Int)))]) (rest := []) ml_X6_128 im_X6_isMarket se_X6_isMarket rfl co_X6_isMarket dX6_countMarkets_18 g11 (c_X6_isMarket (d + 0) hA hK hW hP hT D m t (by omega) (by omega) (by omega)) rfl rfl (Nat.le_of_ble_eq_true rfl) ?_
        refine EV.ifeqB (t := 27) dX6_countMarkets_21 (by decide) (fun c21 => ?_) (fun c21 => ?_)
        · skip
          refine EV.iinc (i := 4) (lv' := [some (.ref (A 11)), some (.int (zI (D))), some (.int (zI (m))), some (.int (zI (((cnt (mkB F D m) t : Nat) : Int)))), some (.int (zI ((t : Int) + 1)))]) dX6_countMarkets_27 rfl (by decide) rfl ?_
          refine EV.goto (t := 5) dX6_countMarkets_30 (by decide) ?_
          exact ih5 (t + 1) _ _ (by omega) (by omega) (cnt_n (f := mkB F D m) c21) (by rfl)
        · skip
          refine EV.iinc (i := 3) (lv' := [some (.ref (A 11)), some (.int (zI (D))), some (.int (zI (m))), some (.int (zI (((cnt (mkB F D m) t : Nat) : Int) + 1))), some (.int (zI ((t : Int))))]) dX6_countMarkets_24 rfl (by decide) rfl ?_
          refine EV.iinc (i := 4) (lv' := [some (.ref (A 11)), some (.int (zI (D))), some (.int (zI (m))), some (.int (zI ((((cnt (mkB F D m) t : Nat) : Int) + 1)))), some (.int (zI ((t : Int) + 1)))]) dX6_countMarkets_27 rfl (by decide) rfl ?_
          refine EV.goto (t := 5) dX6_countMarkets_30 (by decide) ?_
          exact ih5 (t + 1) _ _ (by omega) (by omega) (cnt_y (f := mkB F D m) c21) (by rfl)
  exact L5 _ 0 _ _ (by omega) (Nat.lt_succ_self _) (by rfl) (by rfl)
set_option maxHeartbeats 4000000 in
set_option maxRecDepth 20000 in
theorem c_X6_firstMarket (d : Nat) (hA : inA A N) (hK : WFK K) (hW : WF F) (hP : WFP P) (hT : WFT T) (D m : Int) (hD : 0 ≤ D ∧ D ≤ 7) (hm : inR m) : CT G l mX6_firstMarket (d + 5) 0 0 [.ref (A 11), .int (zI (D)), .int (zI (m))] (HP G h A N (K, (F, P, T, V), O, im, IL) X) (RQ (HP G h A N (K, (F, P, T, V), O, im, IL) X) (firstR (mkB F D m))) := by
  refine CT.of (by decide) (Nat.le_of_ble_eq_true rfl) (List.forall_mem_cons.mpr ⟨rfl, List.forall_mem_cons.mpr ⟨rfl, List.forall_mem_cons.mpr ⟨rfl, fun _ h => absurd h List.not_mem_nil⟩⟩⟩) ?_
  refine EV.lvs (lv' := [some (.ref (A 11)), some (.int (zI (D))), some (.int (zI (m))), none]) rfl ?_
  have g11 : (HP G h A N (K, (F, P, T, V), O, im, IL) X) (A 11) = some (obj 6 [.ref (A 12), .ref (A 14), .ref (A 26), .ref (A 27)]) := hGet hA _ _ 11 (by decide)
  have hK6 := hK.1
  have hP6 := hP.1
  have hT6 := hT.1
  have hth := hW.1
  have hF : FolkAt G (HP G h A N (K, (F, P, T, V), O, im, IL) X) F (A 15) (A 16) (A 17) (A 18) (A 19) V := hFolk hA
  refine EV.iconst dX6_firstMarket_0 ?_
  refine EV.istore_n (i := 3) (lv' := [some (.ref (A 11)), some (.int (zI (D))), some (.int (zI (m))), some (.int (zI (0)))]) dX6_firstMarket_1 rfl (by decide) rfl ?_
  have L2 : ∀ (n2 : Nat) (t : Nat) (x3 : Int), (t ≤ 840) → (∀ i, i < t → mkB F D m i = false) → 840 - t < n2 → x3 = (t : Int) → EV G l mX6_firstMarket (d + 5) (RQ (HP G h A N (K, (F, P, T, V), O, im, IL) X) (firstR (mkB F D m))) 2 [some (.ref (A 11)), some (.int (zI (D))), some (.int (zI (m))), some (.int (zI (x3)))] [] (HP G h A N (K, (F, P, T, V), O, im, IL) X) 0 0 := by
    intro n2
    induction n2 with
    | zero => intro _ _ _ _ hm; exact absurd hm (Nat.not_lt_zero _)
    | succ n2 ih2 =>
      intro t x3 ht hno hm2 e3
      subst e3
      refine EV.iload_n (i := 3) dX6_firstMarket_2 rfl rfl ?_
      refine EV.sipush dX6_firstMarket_3 (by decide) ?_
      refine EV.icmp_ge (t := 27) dX6_firstMarket_6 (by decide) (by omega) (fun c6 => ?_) (fun c6 => ?_)
      · skip
        obtain rfl : t = 840 := by omega
        refine EV.bipush dX6_firstMarket_27 (by decide) ?_
        refine EV.iret rfl dX6_firstMarket_29 ?_
        exact rQ (firstR_n (ffr_none (fun i _ b => hno i (by omega)))).symm
      · skip
        refine EV.aload_n (i := 0) dX6_firstMarket_9 rfl rfl ?_
        refine EV.iload_n (i := 1) dX6_firstMarket_10 rfl rfl ?_
        refine EV.iload_n (i := 2) dX6_firstMarket_11 rfl rfl ?_
        refine EV.iload_n (i := 3) dX6_firstMarket_12 rfl rfl ?_
        refine EV.callVr (M' := mX6_isMarket) (as := [.int (zI (D)), .int (zI (m)), .int (zI ((t : Int)))]) (rest := []) ml_X6_128 im_X6_isMarket se_X6_isMarket rfl co_X6_isMarket dX6_firstMarket_13 g11 (c_X6_isMarket (d + 0) hA hK hW hP hT D m t (by omega) (by omega) (by omega)) rfl rfl (Nat.le_of_ble_eq_true rfl) ?_
        refine EV.ifeqB (t := 21) dX6_firstMarket_16 (by decide) (fun c16 => ?_) (fun c16 => ?_)
        · skip
          refine EV.iinc (i := 3) (lv' := [some (.ref (A 11)), some (.int (zI (D))), some (.int (zI (m))), some (.int (zI ((t : Int) + 1)))]) dX6_firstMarket_21 rfl (by decide) rfl ?_
          refine EV.goto (t := 2) dX6_firstMarket_24 (by decide) ?_
          exact ih2 (t + 1) _ (by omega) (no_step hno c16) (by omega) (by rfl)
        · skip
          refine EV.iload_n (i := 3) dX6_firstMarket_19 rfl rfl ?_
          refine EV.iret rfl dX6_firstMarket_20 ?_
          exact rQ (firstR_s (ffr_some (Nat.zero_le _) (by omega) c16 (fun i _ b => hno i b))).symm
  exact L2 _ 0 _ (by omega) (no_0) (Nat.lt_succ_self _) (by rfl)
set_option maxHeartbeats 4000000 in
set_option maxRecDepth 20000 in
theorem c_X6_longestWithoutMarket (d : Nat) (hA : inA A N) (hK : WFK K) (hW : WF F) (hP : WFP P) (hT : WFT T) (D m : Int) (hD : 0 ≤ D ∧ D ≤ 7) (hm : inR m) : CT G l mX6_longestWithoutMarket (d + 6) 0 0 [.ref (A 11), .int (zI (D)), .int (zI (m))] (HP G h A N (K, (F, P, T, V), O, im, IL) X) (RQ (HP G h A N (K, (F, P, T, V), O, im, IL) X) (longR (mkB F D m))) := by
  refine CT.of (by decide) (Nat.le_of_ble_eq_true rfl) (List.forall_mem_cons.mpr ⟨rfl, List.forall_mem_cons.mpr ⟨rfl, List.forall_mem_cons.mpr ⟨rfl, fun _ h => absurd h List.not_mem_nil⟩⟩⟩) ?_
  refine EV.lvs (lv' := [some (.ref (A 11)), some (.int (zI (D))), some (.int (zI (m))), none, none, none, none]) rfl ?_
  have g11 : (HP G h A N (K, (F, P, T, V), O, im, IL) X) (A 11) = some (obj 6 [.ref (A 12), .ref (A 14), .ref (A 26), .ref (A 27)]) := hGet hA _ _ 11 (by decide)
  have hK6 := hK.1
  have hP6 := hP.1
  have hT6 := hT.1
  have hth := hW.1
  have hF : FolkAt G (HP G h A N (K, (F, P, T, V), O, im, IL) X) F (A 15) (A 16) (A 17) (A 18) (A 19) V := hFolk hA
  refine EV.aload_n (i := 0) dX6_longestWithoutMarket_0 rfl rfl ?_
  refine EV.iload_n (i := 1) dX6_longestWithoutMarket_1 rfl rfl ?_
  refine EV.iload_n (i := 2) dX6_longestWithoutMarket_2 rfl rfl ?_
  refine EV.callVr (M' := mX6_firstMarket) (as := [.int (zI (D)), .int (zI (m))]) (rest := []) ml_X6_122 im_X6_firstMarket se_X6_firstMarket rfl co_X6_firstMarket dX6_longestWithoutMarket_3 g11 (c_X6_firstMarket (d + 0) hA hK hW hP hT D m (by omega) (by omega)) rfl rfl (Nat.le_of_ble_eq_true rfl) ?_
  have hfr := firstR_in (mkB F D m)
  refine EV.istore_n (i := 3) (lv' := [some (.ref (A 11)), some (.int (zI (D))), some (.int (zI (m))), some (.int (zI (firstR (mkB F D m)))), none, none, none]) dX6_longestWithoutMarket_6 rfl (by decide) rfl ?_
  refine EV.iload_n (i := 3) dX6_longestWithoutMarket_7 rfl rfl ?_
  refine EV.bipush dX6_longestWithoutMarket_8 (by decide) ?_
  refine EV.icmp_ne (t := 17) dX6_longestWithoutMarket_10 (by decide) (by omega) (fun c10 => ?_) (fun c10 => ?_)
  · skip
    obtain ⟨k, hk0, hk8, hke⟩ := firstR_k c10
    refine EV.lvs (lv' := [some (.ref (A 11)), some (.int (zI (D))), some (.int (zI (m))), some (.int (zI ((k : Int)))), none, none, none]) (by rw [hke]) ?_
    refine EV.iconst dX6_longestWithoutMarket_17 ?_
    refine EV.istore (i := 4) (lv' := [some (.ref (A 11)), some (.int (zI (D))), some (.int (zI (m))), some (.int (zI ((k : Int)))), some (.int (zI (0))), none, none]) dX6_longestWithoutMarket_18 (by decide) rfl ?_
    refine EV.iconst dX6_longestWithoutMarket_20 ?_
    refine EV.istore (i := 5) (lv' := [some (.ref (A 11)), some (.int (zI (D))), some (.int (zI (m))), some (.int (zI ((k : Int)))), some (.int (zI (0))), some (.int (zI (0))), none]) dX6_longestWithoutMarket_21 (by decide) rfl ?_
    refine EV.iload_n (i := 3) dX6_longestWithoutMarket_23 rfl rfl ?_
    refine EV.istore (i := 6) (lv' := [some (.ref (A 11)), some (.int (zI (D))), some (.int (zI (m))), some (.int (zI ((k : Int)))), some (.int (zI (0))), some (.int (zI (0))), some (.int (zI ((k : Int))))]) dX6_longestWithoutMarket_24 (by decide) rfl ?_
    have L26 : ∀ (n26 : Nat) (n : Nat) (x4 x5 x6 : Int), (n ≤ 841) → 841 - n < n26 → x4 = (rowS (mkB F D m) k n).2 → x5 = (rowS (mkB F D m) k n).1 → x6 = ((k + n : Nat) : Int) → EV G l mX6_longestWithoutMarket (d + 6) (RQ (HP G h A N (K, (F, P, T, V), O, im, IL) X) (longR (mkB F D m))) 26 [some (.ref (A 11)), some (.int (zI (D))), some (.int (zI (m))), some (.int (zI ((k : Int)))), some (.int (zI (x4))), some (.int (zI (x5))), some (.int (zI (x6)))] [] (HP G h A N (K, (F, P, T, V), O, im, IL) X) 0 0 := by
      intro n26
      induction n26 with
      | zero => intro _ _ _ _ _ hm; exact absurd hm (Nat.not_lt_zero _)
      | succ n26 ih26 =>
        intro n x4 x5 x6 hn hm26 e4 e5 e6
        subst e4 e5 e6
        have hri := rowS_in (mkB F D m) k n
        refine EV.iload (i := 6) dX6_longestWithoutMarket_26 rfl ?_
        refine EV.iload_n (i := 3) dX6_longestWithoutMarket_28 rfl rfl ?_
        refine EV.sipush dX6_longestWithoutMarket_29 (by decide) ?_
        refine EV.iadd dX6_longestWithoutMarket_32 ?_
        refine EV.icmp_gt (t := 72) dX6_longestWithoutMarket_33 (by decide) (by omega) (fun c33 => ?_) (fun c33 => ?_)
        · skip
          obtain rfl : n = 841 := by omega
          refine EV.iload (i := 4) dX6_longestWithoutMarket_72 rfl ?_
          refine EV.iret rfl dX6_longestWithoutMarket_74 ?_
          exact rQ (longR_s hk0).symm
        · skip
          refine EV.aload_n (i := 0) dX6_longestWithoutMarket_36 rfl rfl ?_
          refine EV.iload_n (i := 1) dX6_longestWithoutMarket_37 rfl rfl ?_
          refine EV.iload_n (i := 2) dX6_longestWithoutMarket_38 rfl rfl ?_
          refine EV.iload (i := 6) dX6_longestWithoutMarket_39 rfl ?_
          refine EV.callVr (M' := mX6_isMarket) (as := [.int (zI (D)), .int (zI (m)), .int (zI (((k + n : Nat) : Int)))]) (rest := []) ml_X6_128 im_X6_isMarket se_X6_isMarket rfl co_X6_isMarket dX6_longestWithoutMarket_41 g11 (c_X6_isMarket (d + 1) hA hK hW hP hT D m (k + n) (by omega) (by omega) (by omega)) rfl rfl (Nat.le_of_ble_eq_true rfl) ?_
          refine EV.ifeqB (t := 51) dX6_longestWithoutMarket_44 (by decide) (fun c44 => ?_) (fun c44 => ?_)
          · skip
            refine EV.iload (i := 5) dX6_longestWithoutMarket_51 rfl ?_
            refine EV.iconst dX6_longestWithoutMarket_53 ?_
            refine EV.iadd dX6_longestWithoutMarket_54 ?_
            refine EV.istore (i := 5) (lv' := [some (.ref (A 11)), some (.int (zI (D))), some (.int (zI (m))), some (.int (zI ((k : Int)))), some (.int (zI ((rowS (mkB F D m) k n).2))), some (.int (zI (((rowS (mkB F D m) k n).1 + 1)))), some (.int (zI (((k + n : Nat) : Int))))]) dX6_longestWithoutMarket_55 (by decide) rfl ?_
            refine EV.iload (i := 4) dX6_longestWithoutMarket_57 rfl ?_
            refine EV.iload (i := 5) dX6_longestWithoutMarket_59 rfl ?_
            refine EV.callSr (M' := mJ9_max_7cf53) (as := [.int (zI ((rowS (mkB F D m) k n).2)), .int (zI (((rowS (mkB F D m) k n).1 + 1)))]) (rest := []) ml_X6_132 sm_J9_max_7cf53 co_J9_max_7cf53 dX6_longestWithoutMarket_61 (c_J9_max_7cf53 (d + 4) ((rowS (mkB F D m) k n).2) ((rowS (mkB F D m) k n).1 + 1) (by omega) (by omega)) rfl rfl (Nat.le_of_ble_eq_true rfl) ?_
            refine EV.istore (i := 4) (lv' := [some (.ref (A 11)), some (.int (zI (D))), some (.int (zI (m))), some (.int (zI ((k : Int)))), some (.int (zI ((if (rowS (mkB F D m) k n).2 < ((rowS (mkB F D m) k n).1 + 1) then ((rowS (mkB F D m) k n).1 + 1) else (rowS (mkB F D m) k n).2)))), some (.int (zI (((rowS (mkB F D m) k n).1 + 1)))), some (.int (zI (((k + n : Nat) : Int))))]) dX6_longestWithoutMarket_64 (by decide) rfl ?_
            refine EV.iinc (i := 6) (lv' := [some (.ref (A 11)), some (.int (zI (D))), some (.int (zI (m))), some (.int (zI ((k : Int)))), some (.int (zI ((if (rowS (mkB F D m) k n).2 < ((rowS (mkB F D m) k n).1 + 1) then ((rowS (mkB F D m) k n).1 + 1) else (rowS (mkB F D m) k n).2)))), some (.int (zI (((rowS (mkB F D m) k n).1 + 1)))), some (.int (zI (((k + n : Nat) : Int) + 1)))]) dX6_longestWithoutMarket_66 rfl (by decide) rfl ?_
            refine EV.goto (t := 26) dX6_longestWithoutMarket_69 (by decide) ?_
            exact ih26 (n + 1) _ _ _ (by omega) (by omega) ((rowS_f c44).2.symm) ((rowS_f c44).1.symm) (by omega)
          · skip
            refine EV.iconst dX6_longestWithoutMarket_47 ?_
            refine EV.goto (t := 55) dX6_longestWithoutMarket_48 (by decide) ?_
            refine EV.istore (i := 5) (lv' := [some (.ref (A 11)), some (.int (zI (D))), some (.int (zI (m))), some (.int (zI ((k : Int)))), some (.int (zI ((rowS (mkB F D m) k n).2))), some (.int (zI (0))), some (.int (zI (((k + n : Nat) : Int))))]) dX6_longestWithoutMarket_55 (by decide) rfl ?_
            refine EV.iload (i := 4) dX6_longestWithoutMarket_57 rfl ?_
            refine EV.iload (i := 5) dX6_longestWithoutMarket_59 rfl ?_
            refine EV.callSr (M' := mJ9_max_7cf53) (as := [.int (zI ((rowS (mkB F D m) k n).2)), .int (zI (0))]) (rest := []) ml_X6_132 sm_J9_max_7cf53 co_J9_max_7cf53 dX6_longestWithoutMarket_61 (c_J9_max_7cf53 (d + 4) ((rowS (mkB F D m) k n).2) 0 (by omega) (by omega)) rfl rfl (Nat.le_of_ble_eq_true rfl) ?_
            refine EV.istore (i := 4) (lv' := [some (.ref (A 11)), some (.int (zI (D))), some (.int (zI (m))), some (.int (zI ((k : Int)))), some (.int (zI ((if (rowS (mkB F D m) k n).2 < 0 then 0 else (rowS (mkB F D m) k n).2)))), some (.int (zI (0))), some (.int (zI (((k + n : Nat) : Int))))]) dX6_longestWithoutMarket_64 (by decide) rfl ?_
            refine EV.iinc (i := 6) (lv' := [some (.ref (A 11)), some (.int (zI (D))), some (.int (zI (m))), some (.int (zI ((k : Int)))), some (.int (zI ((if (rowS (mkB F D m) k n).2 < 0 then 0 else (rowS (mkB F D m) k n).2)))), some (.int (zI (0))), some (.int (zI (((k + n : Nat) : Int) + 1)))]) dX6_longestWithoutMarket_66 rfl (by decide) rfl ?_
            refine EV.goto (t := 26) dX6_longestWithoutMarket_69 (by decide) ?_
            exact ih26 (n + 1) _ _ _ (by omega) (by omega) ((rowS_t c44).2.symm) ((rowS_t c44).1.symm) (by omega)
    exact L26 _ 0 _ _ _ (by omega) (Nat.lt_succ_self _) (rfl) (rfl) (by omega)
  · skip
    refine EV.sipush dX6_longestWithoutMarket_13 (by decide) ?_
    refine EV.iret rfl dX6_longestWithoutMarket_16 ?_
    exact rQ (longR_n c10).symm
set_option maxHeartbeats 4000000 in
set_option maxRecDepth 20000 in
theorem c_X6_market (d : Nat) (hA : inA A N) (hK : WFK K) (hW : WF F) (hP : WFP P) (hT : WFT T) (D m w : Int) (hD : inR D) (hm : inR m) (hw : inR w) : CT G l mX6_market (d + 7) 0 0 [.ref (A 11), .int (zI (D)), .int (zI (m)), .int (zI (w))] (HP G h A N (K, (F, P, T, V), O, im, IL) X) (RQ (HP G h A N (K, (F, P, T, V), O, im, IL) X) (marketR F D m w)) := by
  refine CT.of (by decide) (Nat.le_of_ble_eq_true rfl) (List.forall_mem_cons.mpr ⟨rfl, List.forall_mem_cons.mpr ⟨rfl, List.forall_mem_cons.mpr ⟨rfl, List.forall_mem_cons.mpr ⟨rfl, fun _ h => absurd h List.not_mem_nil⟩⟩⟩⟩) ?_
  refine EV.lvs (lv' := [some (.ref (A 11)), some (.int (zI (D))), some (.int (zI (m))), some (.int (zI (w)))]) rfl ?_
  have g11 : (HP G h A N (K, (F, P, T, V), O, im, IL) X) (A 11) = some (obj 6 [.ref (A 12), .ref (A 14), .ref (A 26), .ref (A 27)]) := hGet hA _ _ 11 (by decide)
  have hK6 := hK.1
  have hP6 := hP.1
  have hT6 := hT.1
  have hth := hW.1
  have hF : FolkAt G (HP G h A N (K, (F, P, T, V), O, im, IL) X) F (A 15) (A 16) (A 17) (A 18) (A 19) V := hFolk hA
  refine EV.iload_n (i := 1) dX6_market_0 rfl rfl ?_
  refine EV.bipush dX6_market_1 (by decide) ?_
  refine EV.callSr (M' := mX6_isOneOf) (as := [.int (zI (D)), .int (zI (8))]) (rest := []) ml_X6_42 sm_X6_isOneOf co_X6_isOneOf dX6_market_3 (c_X6_isOneOfL (d + 5) D 8 7 rfl (by omega) (by omega)) rfl rfl (Nat.le_of_ble_eq_true rfl) ?_
  refine EV.ifneB (t := 11) dX6_market_6 (by decide) (fun c6 => ?_) (fun c6 => ?_)
  · skip
    have c6r := of_rg c6
    refine EV.iload_n (i := 2) dX6_market_11 rfl rfl ?_
    refine EV.iconst dX6_market_12 ?_
    refine EV.icmp_lt (t := 30) dX6_market_13 (by decide) (by omega) (fun c13 => ?_) (fun c13 => ?_)
    · skip
      refine EV.bipush dX6_market_30 (by decide) ?_
      refine EV.iret rfl dX6_market_32 ?_
      exact rQ (by rw [marketR, if_pos c6, if_neg (fun hh => by simp only [Bool.and_eq_true, rg, decide_eq_true_eq] at hh; omega)])
    · skip
      refine EV.iload_n (i := 2) dX6_market_16 rfl rfl ?_
      refine EV.bipush dX6_market_17 (by decide) ?_
      refine EV.icmp_gt (t := 30) dX6_market_19 (by decide) (by omega) (fun c19 => ?_) (fun c19 => ?_)
      · skip
        refine EV.bipush dX6_market_30 (by decide) ?_
        refine EV.iret rfl dX6_market_32 ?_
        exact rQ (by rw [marketR, if_pos c6, if_neg (fun hh => by simp only [Bool.and_eq_true, rg, decide_eq_true_eq] at hh; omega)])
      · skip
        refine EV.iload_n (i := 3) dX6_market_22 rfl rfl ?_
        refine EV.iconst dX6_market_23 ?_
        refine EV.callSr (M' := mX6_isOneOf) (as := [.int (zI (w)), .int (zI (3))]) (rest := []) ml_X6_42 sm_X6_isOneOf co_X6_isOneOf dX6_market_24 (c_X6_isOneOfL (d + 5) w 3 2 rfl (by omega) (by omega)) rfl rfl (Nat.le_of_ble_eq_true rfl) ?_
        refine EV.ifneB (t := 33) dX6_market_27 (by decide) (fun c27 => ?_) (fun c27 => ?_)
        · skip
          have c27r := of_rg c27
          refine EV.iload_n (i := 3) dX6_market_33 rfl rfl ?_
          refine EV.ifne (t := 44) dX6_market_34 (by decide) (by omega) (fun c34 => ?_) (fun c34 => ?_)
          · skip
            refine EV.iload_n (i := 3) dX6_market_44 rfl rfl ?_
            refine EV.iconst dX6_market_45 ?_
            refine EV.icmp_ne (t := 58) dX6_market_46 (by decide) (by omega) (fun c46 => ?_) (fun c46 => ?_)
            · skip
              refine EV.aload_n (i := 0) dX6_market_58 rfl rfl ?_
              refine EV.iload_n (i := 1) dX6_market_59 rfl rfl ?_
              refine EV.iload_n (i := 2) dX6_market_60 rfl rfl ?_
              refine EV.callVr (M' := mX6_longestWithoutMarket) (as := [.int (zI (D)), .int (zI (m))]) (rest := []) ml_X6_125 im_X6_longestWithoutMarket se_X6_longestWithoutMarket rfl co_X6_longestWithoutMarket dX6_market_61 g11 (c_X6_longestWithoutMarket (d + 0) hA hK hW hP hT D m (by omega) (by omega)) rfl rfl (Nat.le_of_ble_eq_true rfl) ?_
              refine EV.iret rfl dX6_market_64 ?_
              exact rQ (by rw [marketR, if_pos c6, if_pos (by rw [rg_t (by omega), c27]; rfl), if_neg c34, if_neg c46])
            · skip
              refine EV.aload_n (i := 0) dX6_market_49 rfl rfl ?_
              refine EV.iload_n (i := 1) dX6_market_50 rfl rfl ?_
              refine EV.iload_n (i := 2) dX6_market_51 rfl rfl ?_
              refine EV.callVr (M' := mX6_firstMarket) (as := [.int (zI (D)), .int (zI (m))]) (rest := []) ml_X6_122 im_X6_firstMarket se_X6_firstMarket rfl co_X6_firstMarket dX6_market_52 g11 (c_X6_firstMarket (d + 1) hA hK hW hP hT D m (by omega) (by omega)) rfl rfl (Nat.le_of_ble_eq_true rfl) ?_
              have hfr := firstR_in (mkB F D m)
              refine EV.goto (t := 64) dX6_market_55 (by decide) ?_
              refine EV.iret rfl dX6_market_64 ?_
              exact rQ (by rw [marketR, if_pos c6, if_pos (by rw [rg_t (by omega), c27]; rfl), if_neg c34, if_pos c46])
          · skip
            refine EV.aload_n (i := 0) dX6_market_37 rfl rfl ?_
            refine EV.iload_n (i := 1) dX6_market_38 rfl rfl ?_
            refine EV.iload_n (i := 2) dX6_market_39 rfl rfl ?_
            refine EV.callVr (M' := mX6_countMarkets) (as := [.int (zI (D)), .int (zI (m))]) (rest := []) ml_X6_119 im_X6_countMarkets se_X6_countMarkets rfl co_X6_countMarkets dX6_market_40 g11 (c_X6_countMarkets (d + 1) hA hK hW hP hT D m (by omega) (by omega)) rfl rfl (Nat.le_of_ble_eq_true rfl) ?_
            refine EV.iret rfl dX6_market_43 ?_
            exact rQ (by rw [marketR, if_pos c6, if_pos (by rw [rg_t (by omega), c27]; rfl), if_pos c34])
        · skip
          have c27r := of_nrg c27
          refine EV.bipush dX6_market_30 (by decide) ?_
          refine EV.iret rfl dX6_market_32 ?_
          exact rQ (by rw [marketR, if_pos c6, if_neg (fun hh => by simp only [Bool.and_eq_true, rg, decide_eq_true_eq] at hh; omega)])
  · skip
    have c6r := of_nrg c6
    refine EV.iconst dX6_market_9 ?_
    refine EV.iret rfl dX6_market_10 ?_
    exact rQ (by rw [marketR, if_neg (by rw [c6]; decide)])
set_option maxHeartbeats 4000000 in
set_option maxRecDepth 20000 in
theorem c_X6_can (d : Nat) (hA : inA A N) (hK : WFK K) (hW : WF F) (hP : WFP P) (hT : WFT T) (z t : Int) (hz : inR z) (ht : inR t) : CT G l mX6_can (d + 5) 0 0 [.ref (A 11), .int (zI (z)), .int (zI (t))] (HP G h A N (K, (F, P, T, V), O, im, IL) X) (RQ (HP G h A N (K, (F, P, T, V), O, im, IL) X) (canR F P z t)) := by
  refine CT.of (by decide) (Nat.le_of_ble_eq_true rfl) (List.forall_mem_cons.mpr ⟨rfl, List.forall_mem_cons.mpr ⟨rfl, List.forall_mem_cons.mpr ⟨rfl, fun _ h => absurd h List.not_mem_nil⟩⟩⟩) ?_
  refine EV.lvs (lv' := [some (.ref (A 11)), some (.int (zI (z))), some (.int (zI (t)))]) rfl ?_
  have g11 : (HP G h A N (K, (F, P, T, V), O, im, IL) X) (A 11) = some (obj 6 [.ref (A 12), .ref (A 14), .ref (A 26), .ref (A 27)]) := hGet hA _ _ 11 (by decide)
  have g14 : (HP G h A N (K, (F, P, T, V), O, im, IL) X) (A 14) = some (obj 1 [.ref (A 15), .ref (A 20), .ref (A 23)]) := hGet hA _ _ 14 (by decide)
  have g20 : (HP G h A N (K, (F, P, T, V), O, im, IL) X) (A 20) = some (obj 4 [.int (zI ((P.1 : Int))), .ref (A 21), .ref (A 22)]) := hGet hA _ _ 20 (by decide)
  have hK6 := hK.1
  have hP6 := hP.1
  have hT6 := hT.1
  have hth := hW.1
  have hF : FolkAt G (HP G h A N (K, (F, P, T, V), O, im, IL) X) F (A 15) (A 16) (A 17) (A 18) (A 19) V := hFolk hA
  refine EV.iload_n (i := 1) dX6_can_0 rfl rfl ?_
  refine EV.aload_n (i := 0) dX6_can_1 rfl rfl ?_
  refine EV.getf fl_X6_19 dX6_can_2 g11 rfl ?_
  refine EV.getf fl_X6_81 dX6_can_5 g14 rfl ?_
  refine EV.getf fl_X6_91 dX6_can_8 g20 rfl ?_
  refine EV.callSr (M' := mX6_isOneOf) (as := [.int (zI (z)), .int (zI ((P.1 : Int)))]) (rest := []) ml_X6_42 sm_X6_isOneOf co_X6_isOneOf dX6_can_11 (c_X6_isOneOf (d + 3) z (P.1 : Int) (by omega) (by omega)) rfl rfl (Nat.le_of_ble_eq_true rfl) ?_
  refine EV.ifneB (t := 19) dX6_can_14 (by decide) (fun c14 => ?_) (fun c14 => ?_)
  · skip
    have c14r := of_rg c14
    obtain ⟨v, rfl⟩ : ∃ v : Nat, z = (v : Int) := ⟨z.toNat, by omega⟩
    refine EV.iload_n (i := 2) dX6_can_19 rfl rfl ?_
    refine EV.callSr (M' := mX6_isDate) (as := [.int (zI (t))]) (rest := []) ml_X6_92 sm_X6_isDate co_X6_isDate dX6_can_20 (c_X6_isDate (d + 3) t (by omega)) rfl rfl (Nat.le_of_ble_eq_true rfl) ?_
    refine EV.ifneB (t := 29) dX6_can_23 (by decide) (fun c23 => ?_) (fun c23 => ?_)
    · skip
      have c23r := of_rg c23
      refine EV.aload_n (i := 0) dX6_can_29 rfl rfl ?_
      refine EV.getf fl_X6_19 dX6_can_30 g11 rfl ?_
      refine EV.iload_n (i := 1) dX6_can_33 rfl rfl ?_
      refine EV.iload_n (i := 2) dX6_can_34 rfl rfl ?_
      refine EV.callVr (M' := mX1_isDoable) (as := [.int (zI ((v : Int))), .int (zI (t))]) (rest := []) ml_X6_137 im_X1_isDoable se_X1_isDoable rfl co_X1_isDoable dX6_can_35 g14 (c_X1_isDoable (d + 0) hA hW hP hT v t (by omega) (by omega)) rfl rfl (Nat.le_of_ble_eq_true rfl) ?_
      refine EV.ifeqB (t := 45) dX6_can_38 (by decide) (fun c38 => ?_) (fun c38 => ?_)
      · skip
        refine EV.iconst dX6_can_45 ?_
        refine EV.iret rfl dX6_can_46 ?_
        exact rQ (by rw [canR, if_pos c14, if_pos c23, Int.toNat_natCast, c38]; rfl)
      · skip
        refine EV.iconst dX6_can_41 ?_
        refine EV.goto (t := 46) dX6_can_42 (by decide) ?_
        refine EV.iret rfl dX6_can_46 ?_
        exact rQ (by rw [canR, if_pos c14, if_pos c23, Int.toNat_natCast, c38]; rfl)
    · skip
      have c23r := of_nrg c23
      refine EV.bipush dX6_can_26 (by decide) ?_
      refine EV.iret rfl dX6_can_28 ?_
      exact rQ (by rw [canR, if_pos c14, if_neg (by rw [c23]; decide)])
  · skip
    have c14r := of_nrg c14
    refine EV.iconst dX6_can_17 ?_
    refine EV.iret rfl dX6_can_18 ?_
    exact rQ (by rw [canR, if_neg (by rw [c14]; decide)])
set_option maxHeartbeats 4000000 in
set_option maxRecDepth 20000 in
theorem c_X6_barred (d : Nat) (hA : inA A N) (hK : WFK K) (hW : WF F) (hP : WFP P) (hT : WFT T)  : CT G l mX6_barred (d + 6) 0 0 [.ref (A 11)] (HP G h A N (K, (F, P, T, V), O, im, IL) X) (RQ (HP G h A N (K, (F, P, T, V), O, im, IL) X) (barredR F P)) := by
  refine CT.of (by decide) (Nat.le_of_ble_eq_true rfl) (List.forall_mem_cons.mpr ⟨rfl, fun _ h => absurd h List.not_mem_nil⟩) ?_
  refine EV.lvs (lv' := [some (.ref (A 11)), none, none]) rfl ?_
  have g11 : (HP G h A N (K, (F, P, T, V), O, im, IL) X) (A 11) = some (obj 6 [.ref (A 12), .ref (A 14), .ref (A 26), .ref (A 27)]) := hGet hA _ _ 11 (by decide)
  have g14 : (HP G h A N (K, (F, P, T, V), O, im, IL) X) (A 14) = some (obj 1 [.ref (A 15), .ref (A 20), .ref (A 23)]) := hGet hA _ _ 14 (by decide)
  have g20 : (HP G h A N (K, (F, P, T, V), O, im, IL) X) (A 20) = some (obj 4 [.int (zI ((P.1 : Int))), .ref (A 21), .ref (A 22)]) := hGet hA _ _ 20 (by decide)
  have hK6 := hK.1
  have hP6 := hP.1
  have hT6 := hT.1
  have hth := hW.1
  have hF : FolkAt G (HP G h A N (K, (F, P, T, V), O, im, IL) X) F (A 15) (A 16) (A 17) (A 18) (A 19) V := hFolk hA
  refine EV.iconst dX6_barred_0 ?_
  refine EV.istore_n (i := 1) (lv' := [some (.ref (A 11)), some (.int (zI (0))), none]) dX6_barred_1 rfl (by decide) rfl ?_
  refine EV.iconst dX6_barred_2 ?_
  refine EV.istore_n (i := 2) (lv' := [some (.ref (A 11)), some (.int (zI (0))), some (.int (zI (0)))]) dX6_barred_3 rfl (by decide) rfl ?_
  have L4 : ∀ (n4 : Nat) (w : Nat) (x1 x2 : Int), (w ≤ P.1) → P.1 - w < n4 → x1 = ((orb (barB F P) w : Nat) : Int) → x2 = (w : Int) → EV G l mX6_barred (d + 6) (RQ (HP G h A N (K, (F, P, T, V), O, im, IL) X) (barredR F P)) 4 [some (.ref (A 11)), some (.int (zI (x1))), some (.int (zI (x2)))] [] (HP G h A N (K, (F, P, T, V), O, im, IL) X) 0 0 := by
    intro n4
    induction n4 with
    | zero => intro _ _ _ _ hm; exact absurd hm (Nat.not_lt_zero _)
    | succ n4 ih4 =>
      intro w x1 x2 hw hm4 e1 e2
      subst e1 e2
      refine EV.iload_n (i := 2) dX6_barred_4 rfl rfl ?_
      refine EV.aload_n (i := 0) dX6_barred_5 rfl rfl ?_
      refine EV.getf fl_X6_19 dX6_barred_6 g11 rfl ?_
      refine EV.getf fl_X6_81 dX6_barred_9 g14 rfl ?_
      refine EV.getf fl_X6_91 dX6_barred_12 g20 rfl ?_
      refine EV.icmp_ge (t := 41) dX6_barred_15 (by decide) (by omega) (fun c15 => ?_) (fun c15 => ?_)
      · skip
        obtain rfl : w = P.1 := by omega
        refine EV.iload_n (i := 1) dX6_barred_41 rfl rfl ?_
        refine EV.iret rfl dX6_barred_42 ?_
        exact rQ rfl
      · skip
        refine EV.aload_n (i := 0) dX6_barred_18 rfl rfl ?_
        refine EV.getf fl_X6_19 dX6_barred_19 g11 rfl ?_
        refine EV.iload_n (i := 2) dX6_barred_22 rfl rfl ?_
        refine EV.callVr (M' := mX1_isBarred) (as := [.int (zI ((w : Int)))]) (rest := []) ml_X6_149 im_X1_isBarred se_X1_isBarred rfl co_X1_isBarred dX6_barred_23 g14 (c_X1_isBarred (d + 0) hA hW hP hT w (by omega)) rfl rfl (Nat.le_of_ble_eq_true rfl) ?_
        refine EV.ifeqB (t := 35) dX6_barred_26 (by decide) (fun c26 => ?_) (fun c26 => ?_)
        · skip
          refine EV.iinc (i := 2) (lv' := [some (.ref (A 11)), some (.int (zI (((orb (barB F P) w : Nat) : Int)))), some (.int (zI ((w : Int) + 1)))]) dX6_barred_35 rfl (by decide) rfl ?_
          refine EV.goto (t := 4) dX6_barred_38 (by decide) ?_
          exact ih4 (w + 1) _ _ (by omega) (by omega) (orb_no (f := barB F P) c26) (by rfl)
        · skip
          refine EV.iload_n (i := 1) dX6_barred_29 rfl rfl ?_
          refine EV.iconst dX6_barred_30 ?_
          refine EV.iload_n (i := 2) dX6_barred_31 rfl rfl ?_
          refine EV.ishlW dX6_barred_32 ?_
          refine EV.iorW dX6_barred_33 ?_
          refine EV.top (y := zI (((orb (barB F P) (w + 1) : Nat) : Int))) (zI_orb (f := barB F P) (by omega) c26) ?_
          refine EV.istore_n (i := 1) (lv' := [some (.ref (A 11)), some (.int (zI (((orb (barB F P) (w + 1) : Nat) : Int)))), some (.int (zI ((w : Int))))]) dX6_barred_34 rfl (by decide) rfl ?_
          refine EV.iinc (i := 2) (lv' := [some (.ref (A 11)), some (.int (zI (((orb (barB F P) (w + 1) : Nat) : Int)))), some (.int (zI ((w : Int) + 1)))]) dX6_barred_35 rfl (by decide) rfl ?_
          refine EV.goto (t := 4) dX6_barred_38 (by decide) ?_
          exact ih4 (w + 1) _ _ (by omega) (by omega) (by rfl) (by rfl)
  exact L4 _ 0 _ _ (by omega) (Nat.lt_succ_self _) (by rfl) (by rfl)
set_option maxHeartbeats 4000000 in
set_option maxRecDepth 20000 in
theorem c_X6_why (d : Nat) (hA : inA A N) (hK : WFK K) (hW : WF F) (hP : WFP P) (hT : WFT T) (z : Int) (hz : inR z) : CT G l mX6_why (d + 6) 0 0 [.ref (A 11), .int (zI (z))] (HP G h A N (K, (F, P, T, V), O, im, IL) X) (RQ (HP G h A N (K, (F, P, T, V), O, im, IL) X) (whyR F P z)) := by
  refine CT.of (by decide) (Nat.le_of_ble_eq_true rfl) (List.forall_mem_cons.mpr ⟨rfl, List.forall_mem_cons.mpr ⟨rfl, fun _ h => absurd h List.not_mem_nil⟩⟩) ?_
  refine EV.lvs (lv' := [some (.ref (A 11)), some (.int (zI (z))), none]) rfl ?_
  have g11 : (HP G h A N (K, (F, P, T, V), O, im, IL) X) (A 11) = some (obj 6 [.ref (A 12), .ref (A 14), .ref (A 26), .ref (A 27)]) := hGet hA _ _ 11 (by decide)
  have g14 : (HP G h A N (K, (F, P, T, V), O, im, IL) X) (A 14) = some (obj 1 [.ref (A 15), .ref (A 20), .ref (A 23)]) := hGet hA _ _ 14 (by decide)
  have g15 : (HP G h A N (K, (F, P, T, V), O, im, IL) X) (A 15) = some (obj 0 [.int (zI ((F.1 : Int))), .ref (A 16), .ref (A 17), .ref (A 18), .ref (A 19)]) := hGet hA _ _ 15 (by decide)
  have g20 : (HP G h A N (K, (F, P, T, V), O, im, IL) X) (A 20) = some (obj 4 [.int (zI ((P.1 : Int))), .ref (A 21), .ref (A 22)]) := hGet hA _ _ 20 (by decide)
  have hK6 := hK.1
  have hP6 := hP.1
  have hT6 := hT.1
  have hth := hW.1
  have hF : FolkAt G (HP G h A N (K, (F, P, T, V), O, im, IL) X) F (A 15) (A 16) (A 17) (A 18) (A 19) V := hFolk hA
  refine EV.iload_n (i := 1) dX6_why_0 rfl rfl ?_
  refine EV.aload_n (i := 0) dX6_why_1 rfl rfl ?_
  refine EV.getf fl_X6_19 dX6_why_2 g11 rfl ?_
  refine EV.getf fl_X6_81 dX6_why_5 g14 rfl ?_
  refine EV.getf fl_X6_91 dX6_why_8 g20 rfl ?_
  refine EV.callSr (M' := mX6_isOneOf) (as := [.int (zI (z)), .int (zI ((P.1 : Int)))]) (rest := []) ml_X6_42 sm_X6_isOneOf co_X6_isOneOf dX6_why_11 (c_X6_isOneOf (d + 4) z (P.1 : Int) (by omega) (by omega)) rfl rfl (Nat.le_of_ble_eq_true rfl) ?_
  refine EV.ifneB (t := 19) dX6_why_14 (by decide) (fun c14 => ?_) (fun c14 => ?_)
  · skip
    have c14r := of_rg c14
    obtain ⟨v, rfl⟩ : ∃ v : Nat, z = (v : Int) := ⟨z.toNat, by omega⟩
    obtain ⟨hwd, hwo, hwp⟩ := hP.2 v (by omega)
    refine EV.aload_n (i := 0) dX6_why_19 rfl rfl ?_
    refine EV.getf fl_X6_19 dX6_why_20 g11 rfl ?_
    refine EV.iload_n (i := 1) dX6_why_23 rfl rfl ?_
    refine EV.callVr (M' := mX1_isBarred) (as := [.int (zI ((v : Int)))]) (rest := []) ml_X6_149 im_X1_isBarred se_X1_isBarred rfl co_X1_isBarred dX6_why_24 g14 (c_X1_isBarred (d + 0) hA hW hP hT v (by omega)) rfl rfl (Nat.le_of_ble_eq_true rfl) ?_
    refine EV.ifneB (t := 33) dX6_why_27 (by decide) (fun c27 => ?_) (fun c27 => ?_)
    · skip
      refine EV.aload_n (i := 0) dX6_why_33 rfl rfl ?_
      refine EV.getf fl_X6_19 dX6_why_34 g11 rfl ?_
      refine EV.getf fl_X6_81 dX6_why_37 g14 rfl ?_
      refine EV.iload_n (i := 1) dX6_why_40 rfl rfl ?_
      refine EV.callVr (M' := mX4_peopleOf) (as := [.int (zI ((v : Int)))]) (rest := []) ml_X6_152 im_X4_peopleOf se_X4_peopleOf rfl co_X4_peopleOf dX6_why_41 g20 (c_X4_peopleOf (d + 3) hA v (by omega)) rfl rfl (Nat.le_of_ble_eq_true rfl) ?_
      refine EV.istore_n (i := 2) (lv' := [some (.ref (A 11)), some (.int (zI ((v : Int)))), some (.int (zI ((P.2.2 v : Int))))]) dX6_why_44 rfl (by decide) rfl ?_
      refine EV.iload_n (i := 2) dX6_why_45 rfl rfl ?_
      refine EV.aload_n (i := 0) dX6_why_46 rfl rfl ?_
      refine EV.getf fl_X6_19 dX6_why_47 g11 rfl ?_
      refine EV.getf fl_X6_56 dX6_why_50 g14 rfl ?_
      refine EV.getf fl_X6_72 dX6_why_53 g15 rfl ?_
      refine EV.iconst dX6_why_56 ?_
      refine EV.ixorW dX6_why_57 ?_
      refine EV.iandW dX6_why_58 ?_
      refine EV.ifeqW (t := 65) dX6_why_59 (by decide) (fun c59 => ?_) (fun c59 => ?_)
      · skip
        refine EV.aload_n (i := 0) dX6_why_65 rfl rfl ?_
        refine EV.getf fl_X6_19 dX6_why_66 g11 rfl ?_
        refine EV.getf fl_X6_56 dX6_why_69 g14 rfl ?_
        refine EV.iload_n (i := 2) dX6_why_72 rfl rfl ?_
        refine EV.aload_n (i := 0) dX6_why_73 rfl rfl ?_
        refine EV.getf fl_X6_19 dX6_why_74 g11 rfl ?_
        refine EV.getf fl_X6_81 dX6_why_77 g14 rfl ?_
        refine EV.iload_n (i := 1) dX6_why_80 rfl rfl ?_
        refine EV.callVr (M' := mX4_dayOf) (as := [.int (zI ((v : Int)))]) (rest := [.int (zI ((P.2.2 v : Int))), .ref (A 15)]) ml_X6_155 im_X4_dayOf se_X4_dayOf rfl co_X4_dayOf dX6_why_81 g20 (c_X4_dayOf (d + 3) hA v (by omega)) rfl rfl (Nat.le_of_ble_eq_true rfl) ?_
        refine EV.callVr (M' := mX0_whyNever) (as := [.int (zI ((P.2.2 v : Int))), .int (zI (P.2.1 v))]) (rest := []) ml_X6_158 im_X0_whyNever se_X0_whyNever rfl co_X0_whyNever dX6_why_84 g15 (c_X0_whyNever (d + 0) hF hW (P.2.2 v) (P.2.1 v) (by omega) (by omega)) rfl rfl (Nat.le_of_ble_eq_true rfl) ?_
        refine EV.iret rfl dX6_why_87 ?_
        exact rQ (by rw [whyR, if_pos c14, Int.toNat_natCast, if_pos (show barB F P v = true from c27), if_pos ((sub0 _ hwp F.1 hth).mp c59)])
      · skip
        refine EV.bipush dX6_why_62 (by decide) ?_
        refine EV.iret rfl dX6_why_64 ?_
        exact rQ (by rw [whyR, if_pos c14, Int.toNat_natCast, if_pos (show barB F P v = true from c27), if_neg (fun y => c59 ((sub0 _ hwp F.1 hth).mpr y))])
    · skip
      refine EV.bipush dX6_why_30 (by decide) ?_
      refine EV.iret rfl dX6_why_32 ?_
      exact rQ (by rw [whyR, if_pos c14, Int.toNat_natCast, if_neg (by rw [show barB F P v = false from c27]; decide)])
  · skip
    have c14r := of_nrg c14
    refine EV.iconst dX6_why_17 ?_
    refine EV.iret rfl dX6_why_18 ?_
    exact rQ (by rw [whyR, if_neg (by rw [c14]; decide)])
set_option maxHeartbeats 4000000 in
set_option maxRecDepth 20000 in
theorem c_X6_common (d : Nat) (hA : inA A N) (hK : WFK K) (hW : WF F) (hP : WFP P) (hT : WFT T) (z t w : Int) (hz : inR z) (ht : inR t) (hw : inR w) : CT G l mX6_common (d + 4) 0 0 [.ref (A 11), .int (zI (z)), .int (zI (t)), .int (zI (w))] (HP G h A N (K, (F, P, T, V), O, im, IL) X) (RQ (HP G h A N (K, (F, P, T, V), O, im, IL) X) (commonR F z t w)) := by
  refine CT.of (by decide) (Nat.le_of_ble_eq_true rfl) (List.forall_mem_cons.mpr ⟨rfl, List.forall_mem_cons.mpr ⟨rfl, List.forall_mem_cons.mpr ⟨rfl, List.forall_mem_cons.mpr ⟨rfl, fun _ h => absurd h List.not_mem_nil⟩⟩⟩⟩) ?_
  refine EV.lvs (lv' := [some (.ref (A 11)), some (.int (zI (z))), some (.int (zI (t))), some (.int (zI (w))), none, none, none, none, none, none]) rfl ?_
  have g11 : (HP G h A N (K, (F, P, T, V), O, im, IL) X) (A 11) = some (obj 6 [.ref (A 12), .ref (A 14), .ref (A 26), .ref (A 27)]) := hGet hA _ _ 11 (by decide)
  have g14 : (HP G h A N (K, (F, P, T, V), O, im, IL) X) (A 14) = some (obj 1 [.ref (A 15), .ref (A 20), .ref (A 23)]) := hGet hA _ _ 14 (by decide)
  have g15 : (HP G h A N (K, (F, P, T, V), O, im, IL) X) (A 15) = some (obj 0 [.int (zI ((F.1 : Int))), .ref (A 16), .ref (A 17), .ref (A 18), .ref (A 19)]) := hGet hA _ _ 15 (by decide)
  have hK6 := hK.1
  have hP6 := hP.1
  have hT6 := hT.1
  have hth := hW.1
  have hF : FolkAt G (HP G h A N (K, (F, P, T, V), O, im, IL) X) F (A 15) (A 16) (A 17) (A 18) (A 19) V := hFolk hA
  refine EV.aload_n (i := 0) dX6_common_0 rfl rfl ?_
  refine EV.iload_n (i := 1) dX6_common_1 rfl rfl ?_
  refine EV.callVr (M' := mX6_isSetOfThere) (as := [.int (zI (z))]) (rest := []) ml_X6_102 im_X6_isSetOfThere se_X6_isSetOfThere rfl co_X6_isSetOfThere dX6_common_2 g11 (c_X6_isSetOfThere (d + 2) hA hK hW hP hT z (by omega)) rfl rfl (Nat.le_of_ble_eq_true rfl) ?_
  refine EV.ifeqB (t := 27) dX6_common_5 (by decide) (fun c5 => ?_) (fun c5 => ?_)
  · skip
    refine EV.bipush dX6_common_27 (by decide) ?_
    refine EV.iret rfl dX6_common_29 ?_
    exact rQ (by simp [commonR, c5])
  · skip
    refine EV.iload_n (i := 2) dX6_common_8 rfl rfl ?_
    refine EV.iflt (t := 27) dX6_common_9 (by decide) (by omega) (fun c9 => ?_) (fun c9 => ?_)
    · skip
      refine EV.bipush dX6_common_27 (by decide) ?_
      refine EV.iret rfl dX6_common_29 ?_
      exact rQ (by rw [commonR, if_neg (fun hh => by simp only [Bool.and_eq_true, rg, decide_eq_true_eq] at hh; omega)])
    · skip
      refine EV.iload_n (i := 2) dX6_common_12 rfl rfl ?_
      refine EV.sipush dX6_common_13 (by decide) ?_
      refine EV.icmp_gt (t := 27) dX6_common_16 (by decide) (by omega) (fun c16 => ?_) (fun c16 => ?_)
      · skip
        refine EV.bipush dX6_common_27 (by decide) ?_
        refine EV.iret rfl dX6_common_29 ?_
        exact rQ (by rw [commonR, if_neg (fun hh => by simp only [Bool.and_eq_true, rg, decide_eq_true_eq] at hh; omega)])
      · skip
        refine EV.iload_n (i := 3) dX6_common_19 rfl rfl ?_
        refine EV.iconst dX6_common_20 ?_
        refine EV.callSr (M' := mX6_isOneOf) (as := [.int (zI (w)), .int (zI (2))]) (rest := []) ml_X6_42 sm_X6_isOneOf co_X6_isOneOf dX6_common_21 (c_X6_isOneOfL (d + 2) w 2 1 rfl (by omega) (by omega)) rfl rfl (Nat.le_of_ble_eq_true rfl) ?_
        refine EV.ifneB (t := 30) dX6_common_24 (by decide) (fun c24 => ?_) (fun c24 => ?_)
        · skip
          have c24r := of_rg c24
          obtain ⟨a, rfl, ha1, ha6, hsa⟩ := setB_of c5
          have hsq : ∃ q, q < 6 ∧ F.1.testBit q = true := by obtain ⟨q, hq, hb⟩ := bit_ex ha1 ha6; exact ⟨q, hq, sub_bit hsa q hq hb⟩
          refine EV.bipush dX6_common_30 (by decide) ?_
          refine EV.istore (i := 4) (lv' := [some (.ref (A 11)), some (.int (zI ((a : Int)))), some (.int (zI (t))), some (.int (zI (w))), some (.int (zI (7))), none, none, none, none, none]) dX6_common_32 (by decide) rfl ?_
          refine EV.bipush dX6_common_34 (by decide) ?_
          refine EV.istore (i := 5) (lv' := [some (.ref (A 11)), some (.int (zI ((a : Int)))), some (.int (zI (t))), some (.int (zI (w))), some (.int (zI (7))), some (.int (zI ((-6)))), none, none, none, none]) dX6_common_36 (by decide) rfl ?_
          refine EV.iconst dX6_common_38 ?_
          refine EV.istore (i := 6) (lv' := [some (.ref (A 11)), some (.int (zI ((a : Int)))), some (.int (zI (t))), some (.int (zI (w))), some (.int (zI (7))), some (.int (zI ((-6)))), some (.int (zI (0))), none, none, none]) dX6_common_39 (by decide) rfl ?_
          have L41 : ∀ (n41 : Nat) (L : Nat) (x4 x5 x6 : Int), (L ≤ 7) → 7 - L < n41 → x4 = cmF (cmS F a t (8 * L)) → x5 = cmW (cmS F a t (8 * L)) → x6 = (L : Int) → EV G l mX6_common (d + 4) (RQ (HP G h A N (K, (F, P, T, V), O, im, IL) X) (commonR F (a : Int) t w)) 41 [some (.ref (A 11)), some (.int (zI ((a : Int)))), some (.int (zI (t))), some (.int (zI (w))), some (.int (zI (x4))), some (.int (zI (x5))), some (.int (zI (x6))), none, none, none] [] (HP G h A N (K, (F, P, T, V), O, im, IL) X) 0 0 := by
            intro n41
            induction n41 with
            | zero => intro _ _ _ _ _ hm; exact absurd hm (Nat.not_lt_zero _)
            | succ n41 ih41 =>
              intro L x4 x5 x6 hL hm41 e4 e5 e6
              subst e4 e5 e6
              refine EV.iload (i := 6) dX6_common_41 rfl ?_
              refine EV.bipush dX6_common_43 (by decide) ?_
              refine EV.icmp_ge (t := 125) dX6_common_45 (by decide) (by omega) (fun c45 => ?_) (fun c45 => ?_)
              · skip
                obtain rfl : L = 7 := by omega
                refine EV.iload_n (i := 3) dX6_common_125 rfl rfl ?_
                refine EV.ifne (t := 134) dX6_common_126 (by decide) (by omega) (fun c126 => ?_) (fun c126 => ?_)
                · skip
                  refine EV.iload (i := 5) dX6_common_134 rfl ?_
                  refine EV.iret rfl dX6_common_136 ?_
                  exact rQ (by rw [commonR_c hW hsq c5 (rg_t (by omega)) c24, if_neg c126])
                · skip
                  refine EV.iload (i := 4) dX6_common_129 rfl ?_
                  refine EV.goto (t := 136) dX6_common_131 (by decide) ?_
                  refine EV.iret rfl dX6_common_136 ?_
                  exact rQ (by rw [commonR_c hW hsq c5 (rg_t (by omega)) c24, if_pos c126])
              · skip
                refine EV.iconst dX6_common_48 ?_
                refine EV.istore (i := 7) (lv' := [some (.ref (A 11)), some (.int (zI ((a : Int)))), some (.int (zI (t))), some (.int (zI (w))), some (.int (zI (cmF (cmS F a t (8 * L))))), some (.int (zI (cmW (cmS F a t (8 * L))))), some (.int (zI ((L : Int)))), some (.int (zI (0))), none, none]) dX6_common_49 (by decide) rfl ?_
                have L51 : ∀ (n51 : Nat) (j : Nat) (x4 x5 x7 : Int), (j ≤ 8) → 8 - j < n51 → x4 = cmF (cmS F a t (8 * L + j)) → x5 = cmW (cmS F a t (8 * L + j)) → x7 = (j : Int) → EV G l mX6_common (d + 4) (RQ (HP G h A N (K, (F, P, T, V), O, im, IL) X) (commonR F (a : Int) t w)) 51 [some (.ref (A 11)), some (.int (zI ((a : Int)))), some (.int (zI (t))), some (.int (zI (w))), some (.int (zI (x4))), some (.int (zI (x5))), some (.int (zI ((L : Int)))), some (.int (zI (x7))), none, none] [] (HP G h A N (K, (F, P, T, V), O, im, IL) X) 0 0 := by
                  intro n51
                  induction n51 with
                  | zero => intro _ _ _ _ _ hm; exact absurd hm (Nat.not_lt_zero _)
                  | succ n51 ih51 =>
                    intro j x4 x5 x7 hj hm51 e4 e5 e7
                    subst e4 e5 e7
                    have hci := cmS_in (F := F) (t := t) ha6 (8 * L + j)
                    have hcg := chgN_le (F := F) ha6 (j : Int) (t + (L : Int))
                    refine EV.iload (i := 7) dX6_common_51 rfl ?_
                    refine EV.bipush dX6_common_53 (by decide) ?_
                    refine EV.icmp_ge (t := 119) dX6_common_55 (by decide) (by omega) (fun c55 => ?_) (fun c55 => ?_)
                    · skip
                      obtain rfl : j = 8 := by omega
                      refine EV.iinc (i := 6) (lv' := [some (.ref (A 11)), some (.int (zI ((a : Int)))), some (.int (zI (t))), some (.int (zI (w))), some (.int (zI (cmF (cmS F a t (8 * L + (8 : Nat)))))), some (.int (zI (cmW (cmS F a t (8 * L + (8 : Nat)))))), some (.int (zI ((L : Int) + 1))), some (.int (zI (((8 : Nat) : Int)))), none, none]) dX6_common_119 rfl (by decide) rfl ?_
                      refine EV.goto (t := 41) dX6_common_122 (by decide) ?_
                      refine EV.drop 7 (lv' := [some (.ref (A 11)), some (.int (zI ((a : Int)))), some (.int (zI (t))), some (.int (zI (w))), some (.int (zI (cmF (cmS F a t (8 * L + (8 : Nat)))))), some (.int (zI (cmW (cmS F a t (8 * L + (8 : Nat)))))), some (.int (zI (((L : Int) + 1)))), none, none, none]) rfl ?_
                      exact ih41 (L + 1) _ _ _ (by omega) (by omega) (rfl) (rfl) (rfl)
                    · skip
                      refine EV.aload_n (i := 0) dX6_common_58 rfl rfl ?_
                      refine EV.getf fl_X6_19 dX6_common_59 g11 rfl ?_
                      refine EV.getf fl_X6_56 dX6_common_62 g14 rfl ?_
                      refine EV.iload (i := 7) dX6_common_65 rfl ?_
                      refine EV.iload_n (i := 2) dX6_common_67 rfl rfl ?_
                      refine EV.iload (i := 6) dX6_common_68 rfl ?_
                      refine EV.iadd dX6_common_70 ?_
                      refine EV.callVr (M' := mX0_having) (as := [.int (zI ((j : Int))), .int (zI ((t + (L : Int))))]) (rest := []) ml_X6_99 im_X0_having se_X0_having rfl co_X0_having dX6_common_71 g15 (c_X0_having (d + 0) hF hW (j : Int) (t + (L : Int)) (by omega) (by omega)) rfl rfl (Nat.le_of_ble_eq_true rfl) ?_
                      have hvl := hv_lt F (j : Int) (t + (L : Int))
                      refine EV.istore (i := 8) (lv' := [some (.ref (A 11)), some (.int (zI ((a : Int)))), some (.int (zI (t))), some (.int (zI (w))), some (.int (zI (cmF (cmS F a t (8 * L + j))))), some (.int (zI (cmW (cmS F a t (8 * L + j))))), some (.int (zI ((L : Int)))), some (.int (zI ((j : Int)))), some (.int (zI ((hv F (j : Int) (t + (L : Int)) : Int)))), none]) dX6_common_74 (by decide) rfl ?_
                      refine EV.iload_n (i := 1) dX6_common_76 rfl rfl ?_
                      refine EV.iload (i := 8) dX6_common_77 rfl ?_
                      refine EV.iconst dX6_common_79 ?_
                      refine EV.ixorW dX6_common_80 ?_
                      refine EV.iandW dX6_common_81 ?_
                      refine EV.top (y := zI (((a &&& (63 ^^^ hv F (j : Int) (t + (L : Int))) : Nat) : Int))) (clr_g a ha6 _ (hv_lt F _ _)) ?_
                      refine EV.callSr (M' := mJ6_bitCount_0f7a4) (as := [.int (zI (((a &&& (63 ^^^ hv F (j : Int) (t + (L : Int))) : Nat) : Int)))]) (rest := []) ml_X6_75 sm_J6_bitCount_0f7a4 co_J6_bitCount_0f7a4 dX6_common_82 (c_J6_bitCount_0f7a4 (d + 2) (a &&& (63 ^^^ hv F (j : Int) (t + (L : Int)))) (Nat.lt_of_le_of_lt Nat.and_le_left (by omega))) rfl rfl (Nat.le_of_ble_eq_true rfl) ?_
                      refine EV.istore (i := 9) (lv' := [some (.ref (A 11)), some (.int (zI ((a : Int)))), some (.int (zI (t))), some (.int (zI (w))), some (.int (zI (cmF (cmS F a t (8 * L + j))))), some (.int (zI (cmW (cmS F a t (8 * L + j))))), some (.int (zI ((L : Int)))), some (.int (zI ((j : Int)))), some (.int (zI ((hv F (j : Int) (t + (L : Int)) : Int)))), some (.int (zI ((chgN F a (j : Int) (t + (L : Int)) : Int))))]) dX6_common_85 (by decide) rfl ?_
                      refine EV.iload (i := 8) dX6_common_87 rfl ?_
                      refine EV.ifeq (t := 113) dX6_common_89 (by decide) (by omega) (fun c89 => ?_) (fun c89 => ?_)
                      · skip
                        refine EV.iinc (i := 7) (lv' := [some (.ref (A 11)), some (.int (zI ((a : Int)))), some (.int (zI (t))), some (.int (zI (w))), some (.int (zI (cmF (cmS F a t (8 * L + j))))), some (.int (zI (cmW (cmS F a t (8 * L + j))))), some (.int (zI ((L : Int)))), some (.int (zI ((j : Int) + 1))), some (.int (zI ((hv F (j : Int) (t + (L : Int)) : Int)))), some (.int (zI ((chgN F a (j : Int) (t + (L : Int)) : Int))))]) dX6_common_113 rfl (by decide) rfl ?_
                        refine EV.goto (t := 51) dX6_common_116 (by decide) ?_
                        refine EV.drop 8 (lv' := [some (.ref (A 11)), some (.int (zI ((a : Int)))), some (.int (zI (t))), some (.int (zI (w))), some (.int (zI (cmF (cmS F a t (8 * L + j))))), some (.int (zI (cmW (cmS F a t (8 * L + j))))), some (.int (zI ((L : Int)))), some (.int (zI (((j : Int) + 1)))), none, some (.int (zI ((chgN F a (j : Int) (t + (L : Int)) : Int))))]) rfl ?_
                        refine EV.drop 9 (lv' := [some (.ref (A 11)), some (.int (zI ((a : Int)))), some (.int (zI (t))), some (.int (zI (w))), some (.int (zI (cmF (cmS F a t (8 * L + j))))), some (.int (zI (cmW (cmS F a t (8 * L + j))))), some (.int (zI ((L : Int)))), some (.int (zI (((j : Int) + 1)))), none, none]) rfl ?_
                        exact ih51 (j + 1) _ _ _ (by omega) (by omega) (congrArg cmF (cm_n ha6 (by omega) (Or.inl c89))) (congrArg cmW (cm_n ha6 (by omega) (Or.inl c89))) (rfl)
                      · skip
                        refine EV.iload (i := 9) dX6_common_92 rfl ?_
                        refine EV.iload (i := 4) dX6_common_94 rfl ?_
                        refine EV.icmp_ge (t := 113) dX6_common_96 (by decide) (by omega) (fun c96 => ?_) (fun c96 => ?_)
                        · skip
                          refine EV.iinc (i := 7) (lv' := [some (.ref (A 11)), some (.int (zI ((a : Int)))), some (.int (zI (t))), some (.int (zI (w))), some (.int (zI (cmF (cmS F a t (8 * L + j))))), some (.int (zI (cmW (cmS F a t (8 * L + j))))), some (.int (zI ((L : Int)))), some (.int (zI ((j : Int) + 1))), some (.int (zI ((hv F (j : Int) (t + (L : Int)) : Int)))), some (.int (zI ((chgN F a (j : Int) (t + (L : Int)) : Int))))]) dX6_common_113 rfl (by decide) rfl ?_
                          refine EV.goto (t := 51) dX6_common_116 (by decide) ?_
                          refine EV.drop 8 (lv' := [some (.ref (A 11)), some (.int (zI ((a : Int)))), some (.int (zI (t))), some (.int (zI (w))), some (.int (zI (cmF (cmS F a t (8 * L + j))))), some (.int (zI (cmW (cmS F a t (8 * L + j))))), some (.int (zI ((L : Int)))), some (.int (zI (((j : Int) + 1)))), none, some (.int (zI ((chgN F a (j : Int) (t + (L : Int)) : Int))))]) rfl ?_
                          refine EV.drop 9 (lv' := [some (.ref (A 11)), some (.int (zI ((a : Int)))), some (.int (zI (t))), some (.int (zI (w))), some (.int (zI (cmF (cmS F a t (8 * L + j))))), some (.int (zI (cmW (cmS F a t (8 * L + j))))), some (.int (zI ((L : Int)))), some (.int (zI (((j : Int) + 1)))), none, none]) rfl ?_
                          exact ih51 (j + 1) _ _ _ (by omega) (by omega) (congrArg cmF (cm_n ha6 (by omega) (Or.inr (by omega)))) (congrArg cmW (cm_n ha6 (by omega) (Or.inr (by omega)))) (rfl)
                        · skip
                          refine EV.iload (i := 9) dX6_common_99 rfl ?_
                          refine EV.istore (i := 4) (lv' := [some (.ref (A 11)), some (.int (zI ((a : Int)))), some (.int (zI (t))), some (.int (zI (w))), some (.int (zI ((chgN F a (j : Int) (t + (L : Int)) : Int)))), some (.int (zI (cmW (cmS F a t (8 * L + j))))), some (.int (zI ((L : Int)))), some (.int (zI ((j : Int)))), some (.int (zI ((hv F (j : Int) (t + (L : Int)) : Int)))), some (.int (zI ((chgN F a (j : Int) (t + (L : Int)) : Int))))]) dX6_common_101 (by decide) rfl ?_
                          refine EV.bipush dX6_common_103 (by decide) ?_
                          refine EV.iload (i := 6) dX6_common_105 rfl ?_
                          refine EV.imul dX6_common_107 ?_
                          refine EV.iload (i := 7) dX6_common_108 rfl ?_
                          refine EV.iadd dX6_common_110 ?_
                          refine EV.istore (i := 5) (lv' := [some (.ref (A 11)), some (.int (zI ((a : Int)))), some (.int (zI (t))), some (.int (zI (w))), some (.int (zI ((chgN F a (j : Int) (t + (L : Int)) : Int)))), some (.int (zI (((100 * (L : Int)) + (j : Int))))), some (.int (zI ((L : Int)))), some (.int (zI ((j : Int)))), some (.int (zI ((hv F (j : Int) (t + (L : Int)) : Int)))), some (.int (zI ((chgN F a (j : Int) (t + (L : Int)) : Int))))]) dX6_common_111 (by decide) rfl ?_
                          refine EV.iinc (i := 7) (lv' := [some (.ref (A 11)), some (.int (zI ((a : Int)))), some (.int (zI (t))), some (.int (zI (w))), some (.int (zI ((chgN F a (j : Int) (t + (L : Int)) : Int)))), some (.int (zI (((100 * (L : Int)) + (j : Int))))), some (.int (zI ((L : Int)))), some (.int (zI ((j : Int) + 1))), some (.int (zI ((hv F (j : Int) (t + (L : Int)) : Int)))), some (.int (zI ((chgN F a (j : Int) (t + (L : Int)) : Int))))]) dX6_common_113 rfl (by decide) rfl ?_
                          refine EV.goto (t := 51) dX6_common_116 (by decide) ?_
                          refine EV.drop 8 (lv' := [some (.ref (A 11)), some (.int (zI ((a : Int)))), some (.int (zI (t))), some (.int (zI (w))), some (.int (zI ((chgN F a (j : Int) (t + (L : Int)) : Int)))), some (.int (zI (((100 * (L : Int)) + (j : Int))))), some (.int (zI ((L : Int)))), some (.int (zI (((j : Int) + 1)))), none, some (.int (zI ((chgN F a (j : Int) (t + (L : Int)) : Int))))]) rfl ?_
                          refine EV.drop 9 (lv' := [some (.ref (A 11)), some (.int (zI ((a : Int)))), some (.int (zI (t))), some (.int (zI (w))), some (.int (zI ((chgN F a (j : Int) (t + (L : Int)) : Int)))), some (.int (zI (((100 * (L : Int)) + (j : Int))))), some (.int (zI ((L : Int)))), some (.int (zI (((j : Int) + 1)))), none, none]) rfl ?_
                          exact ih51 (j + 1) _ _ _ (by omega) (by omega) ((cm_y (by omega) c89 (by omega)).1.symm) ((cm_y (by omega) c89 (by omega)).2.symm) (rfl)
                exact L51 _ 0 _ _ _ (by omega) (Nat.lt_succ_self _) (rfl) (rfl) (rfl)
          exact L41 _ 0 _ _ _ (by omega) (Nat.lt_succ_self _) (rfl) (rfl) (rfl)
        · skip
          have c24r := of_nrg c24
          refine EV.bipush dX6_common_27 (by decide) ?_
          refine EV.iret rfl dX6_common_29 ?_
          exact rQ (by rw [commonR, if_neg (fun hh => by simp only [Bool.and_eq_true, rg, decide_eq_true_eq] at hh; omega)])
end
