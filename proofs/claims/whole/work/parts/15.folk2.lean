/-! ===== more of the people: whyNever, births, feasts ===== -/
theorem pow6 {p : Nat} (h : p < 6) : 2 ^ p < 64 := Nat.pow_lt_pow_right (n := 6) (by decide) h
theorem two_lt {p q : Nat} (hp : p < 6) (hq : q < 6) : 2 ^ p ||| 2 ^ q < 64 := Nat.or_lt_two_pow (n := 6) (pow6 hp) (pow6 hq)
theorem two_and0 : ∀ a, a < 64 → ∀ p, p < 6 → ∀ q, q < 6 → (a &&& (2 ^ p ||| 2 ^ q) = 2 ^ p ||| 2 ^ q ↔ a.testBit p = true ∧ a.testBit q = true) := by decide +kernel
theorem wn_a {F : FK} {a : Nat} {D : Int} {p : Nat} (h : ffr (wn1 F a D) 6 0 = ffr (wn1 F a D) (6 - p) p) (hp : p < 6) (hb : a.testBit p = true) (he : ev F (2 ^ p) D = false) : 11 * (p : Int) = wn F a D := by
  have h1 : wn1 F a D p = true := by unfold wn1; rw [hb, he]; rfl
  unfold wn
  rw [h, ffr_y hp h1]
theorem wn_b {F : FK} {a : Nat} {D : Int} {p : Nat} (h : ffr (wn1 F a D) 6 0 = ffr (wn1 F a D) (6 - p) p) (hp : p < 6) (hb : a.testBit p = false ∨ ev F (2 ^ p) D = true) : ffr (wn1 F a D) 6 0 = ffr (wn1 F a D) (6 - (p + 1)) (p + 1) := by
  refine h.trans (ffr_n hp ?_)
  unfold wn1
  rcases hb with hb | hb
  · rw [hb]; rfl
  · rw [hb]; simp
theorem wn_c {F : FK} {a : Nat} {D : Int} (h : ffr (wn1 F a D) 6 0 = ffr (wn1 F a D) (6 - 6) 6) : wn F a D = fpr (wn2 F a D) (prs 0 1) := by
  unfold wn
  rw [h, ffr_e]
theorem fpr_y {f : Nat → Nat → Bool} {x : Int} {p q : Nat} (h : x = fpr f (prs p q)) (hp : p < 6) (hq : q < 6) (hpq : p < q) (hf : f p q = true) : x = 10 * (p : Int) + q := by
  rw [h, prs_c p hp q hq hpq, fpr, if_pos hf]
theorem fpr_n {f : Nat → Nat → Bool} {x : Int} {p q : Nat} (h : x = fpr f (prs p q)) (hp : p < 6) (hq : q < 6) (hpq : p < q) (hf : f p q = false) : x = fpr f (prs p (q + 1)) := by
  rw [h, prs_c p hp q hq hpq, fpr, if_neg (by rw [hf]; decide)]
theorem fpr_r {f : Nat → Nat → Bool} {x : Int} {p : Nat} (h : x = fpr f (prs p 6)) (hp : p < 6) : x = fpr f (prs (p + 1) (p + 1 + 1)) := by rw [h, prs_n p hp]
theorem fpr_e {f : Nat → Nat → Bool} {x : Int} (h : x = fpr f (prs 6 (6 + 1))) : x = -6 := by rw [h, prs_e]; rfl
theorem ith_y {f : Nat → Nat → Bool} {i x : Int} {p q n : Nat} (h : x = ith f i (prs p q) n) (hp : p < 6) (hq : q < 6) (hpq : p < q) (hf : f p q = true) (hn : (n : Int) = i) : x = 10 * (p : Int) + q := by
  rw [h, prs_c p hp q hq hpq, ith, if_pos hf, if_pos hn]
theorem ith_u {f : Nat → Nat → Bool} {i x : Int} {p q n : Nat} (h : x = ith f i (prs p q) n) (hp : p < 6) (hq : q < 6) (hpq : p < q) (hf : f p q = true) (hn : (n : Int) ≠ i) : x = ith f i (prs p (q + 1)) (n + 1) := by
  rw [h, prs_c p hp q hq hpq, ith, if_pos hf, if_neg hn]
theorem ith_n {f : Nat → Nat → Bool} {i x : Int} {p q n : Nat} (h : x = ith f i (prs p q) n) (hp : p < 6) (hq : q < 6) (hpq : p < q) (hf : f p q = false) : x = ith f i (prs p (q + 1)) n := by
  rw [h, prs_c p hp q hq hpq, ith, if_neg (by rw [hf]; decide)]
theorem ith_r {f : Nat → Nat → Bool} {i x : Int} {p n : Nat} (h : x = ith f i (prs p 6) n) (hp : p < 6) : x = ith f i (prs (p + 1) (p + 1 + 1)) n := by rw [h, prs_n p hp]
theorem ith_e {f : Nat → Nat → Bool} {i x : Int} {n : Nat} (h : x = ith f i (prs 6 (6 + 1)) n) : x = if i = -1 then (n : Int) else -6 := by rw [h, prs_e]; rfl
/-- the day of one born with one of the fourteen orders -/
def bd (tu wy bi t : Int) : Int := (if wy = 0 then tu + (t - bi) else tu - (t - bi)) % 7
def bsB (F : FK) (tu wy bi : Int) (p k : Nat) : Bool := decide (dy F p (bi + (k : Int)) = bd tu wy bi (bi + (k : Int)))
def fsh (F : FK) (tu wy bi : Int) : Nat → Int
  | 0 => 14
  | n + 1 => if F.1.testBit n then (if ((cnt (bsB F tu wy bi n) 14 : Nat) : Int) < fsh F tu wy bi n then ((cnt (bsB F tu wy bi n) 14 : Nat) : Int) else fsh F tu wy bi n) else fsh F tu wy bi n
theorem fsh_in (F : FK) (tu wy bi : Int) : ∀ n, 0 ≤ fsh F tu wy bi n ∧ fsh F tu wy bi n ≤ 14
  | 0 => by unfold fsh; omega
  | n + 1 => by
    have h := fsh_in F tu wy bi n
    have h2 := cnt_le (bsB F tu wy bi n) 14
    unfold fsh
    split
    · split <;> omega
    · exact h
/-- the feast: most, and the day -/
def fst2 (F : FK) (t : Int) : Nat → Int × Int
  | 0 => (0, -6)
  | n + 1 => if (fst2 F t n).1 < ((cnt (hvB F (n : Int) t) 6 : Nat) : Int) then (((cnt (hvB F (n : Int) t) 6 : Nat) : Int), (n : Int)) else fst2 F t n
def ft (F : FK) (t : Int) : Int := (fst2 F t 8).2
theorem fst2_in (F : FK) (t : Int) : ∀ n, (0 ≤ (fst2 F t n).1 ∧ (fst2 F t n).1 ≤ 6) ∧ -6 ≤ (fst2 F t n).2 ∧ (fst2 F t n).2 ≤ (n : Int) - 1 ∧ ((fst2 F t n).2 < 0 → (fst2 F t n).2 = -6 ∧ (fst2 F t n).1 = 0)
  | 0 => by unfold fst2; refine ⟨⟨by decide, by decide⟩, by decide, ?_, fun _ => ⟨rfl, rfl⟩⟩; show (-6 : Int) ≤ ((0 : Nat) : Int) - 1; decide
  | n + 1 => by
    have h := fst2_in F t n
    have h2 := cnt_le (hvB F (n : Int) t) 6
    unfold fst2
    split
    · refine ⟨?_, ?_, ?_, ?_⟩ <;> simp only <;> omega
    · refine ⟨h.1, h.2.1, by omega, h.2.2.2⟩
theorem ft_in (F : FK) (t : Int) : -6 ≤ ft F t ∧ ft F t ≤ 7 ∧ (ft F t < 0 → ft F t = -6) := by
  have h := fst2_in F t 8
  unfold ft
  exact ⟨h.2.1, by omega, fun z => (h.2.2.2 z).1⟩
theorem fst2_y {F : FK} {t : Int} {n : Nat} (h : (fst2 F t n).1 < ((cnt (hvB F (n : Int) t) 6 : Nat) : Int)) : ((cnt (hvB F (n : Int) t) 6 : Nat) : Int) = (fst2 F t (n + 1)).1 ∧ (n : Int) = (fst2 F t (n + 1)).2 := by
  rw [fst2, if_pos h]; exact ⟨rfl, rfl⟩
theorem fst2_n {F : FK} {t : Int} {n : Nat} (h : ((cnt (hvB F (n : Int) t) 6 : Nat) : Int) ≤ (fst2 F t n).1) : (fst2 F t n).1 = (fst2 F t (n + 1)).1 ∧ (fst2 F t n).2 = (fst2 F t (n + 1)).2 := by
  have : ¬ (fst2 F t n).1 < ((cnt (hvB F (n : Int) t) 6 : Nat) : Int) := by omega
  rw [fst2, if_neg this]; exact ⟨rfl, rfl⟩
theorem arI_ne {G : GG} {n m : Nat} {f g : Nat → Int} (h : n ≠ m) : arI G n f ≠ arI G m g := fun e => by
  unfold arI at e
  injection e with e
  injection e with _ e
  injection e with e _
  exact h e
theorem arI_obj {G : GG} {n ci : Nat} {f : Nat → Int} {fs : List Value} : arI G n f ≠ obj ci fs := fun e => by
  unfold arI obj at e
  cases e
theorem addr_ne {h : Hp} {a b : Nat} {x y : va_E} (ha : h a = some x) (hb : h b = some y) (hxy : x ≠ y) : a ≠ b := fun e => by
  subst e
  rw [ha] at hb
  exact hxy (Option.some.inj hb)
theorem FolkAt.votes {G : GG} {h : Hp} {F : FK} {f b s o v : Nat} {V : Nat → Int} (hF : FolkAt G h F f b s o v V) (V' : Nat → Int) : FolkAt G (hset h v (arI G 8 V')) F f b s o v V' := by
  obtain ⟨h1, h2, h3, h4, h5⟩ := hF
  refine ⟨?_, ?_, ?_, ?_, hset_s _ _ _⟩
  · rw [hset_n _ _ (addr_ne h5 h1 arI_obj).symm]; exact h1
  · rw [hset_n _ _ (addr_ne h2 h5 (arI_ne (by decide)))]; exact h2
  · rw [hset_n _ _ (addr_ne h3 h5 (arI_ne (by decide)))]; exact h3
  · rw [hset_n _ _ (addr_ne h4 h5 (arI_ne (by decide)))]; exact h4
theorem vote_y {F : FK} {t : Int} {p : Nat} {V : Nat → Int} (hv : ∀ D : Nat, D < 8 → V D = ((cnt (hvB F (D : Int) t) p : Nat) : Int)) (hp : p < 6) (hd : 0 ≤ dn F (p : Int) t ∧ dn F (p : Int) t ≤ 7) : ∀ D : Nat, D < 8 → uI V (dn F (p : Int) t).toNat (V (dn F (p : Int) t).toNat + 1) D = ((cnt (hvB F (D : Int) t) (p + 1) : Nat) : Int) := fun D hD => by
  by_cases e : D = (dn F (p : Int) t).toNat
  · have e2 : dn F (p : Int) t = (D : Int) := by omega
    rw [e2, Int.toNat_natCast, uI_s, hv D hD]
    exact cnt_y (hvB_t hp (by omega) e2)
  · rw [uI_n _ _ e, hv D hD]
    exact cnt_n (hvB_f hp (by omega))
theorem vote_n {F : FK} {t : Int} {p : Nat} {V : Nat → Int} (hv : ∀ D : Nat, D < 8 → V D = ((cnt (hvB F (D : Int) t) p : Nat) : Int)) (hp : p < 6) (hd : dn F (p : Int) t < 0 ∨ 7 < dn F (p : Int) t) : ∀ D : Nat, D < 8 → V D = ((cnt (hvB F (D : Int) t) (p + 1) : Nat) : Int) := fun D hD => by
  rw [hv D hD]
  exact cnt_n (hvB_f hp (by omega))
theorem clear_s {V : Nat → Int} {k : Nat} (h : ∀ i, i < k → V i = 0) : ∀ i, i < k + 1 → uI V k 0 i = 0 := fun i hi => by
  by_cases e : i = k
  · rw [e, uI_s]
  · rw [uI_n _ _ e]; exact h i (by omega)
/-- a call that answers v and leaves some votes -/
def VQ (G : GG) (h : Hp) (v : Nat) (x : Int) : Option Value → Hp → Prop := fun o h' => o = some (.int (zI x)) ∧ ∃ V' : Nat → Int, h' = hset h v (arI G 8 V')
