/-! ===== answers about the people, in plain words ===== -/
theorem bI_eq1 {b : Bool} (h : bI b = 1) : b = true := by cases b <;> simp [bI] at h ⊢
theorem bI_ne1 {b : Bool} (h : bI b ≠ 1) : b = false := by cases b <;> simp [bI] at h ⊢
theorem bI_r1 (b : Bool) : inR (bI b) ∧ inR 1 := ⟨bI_in b, by decide, by decide⟩
/-- the class's dayOn -/
def dn (F : FK) (z t : Int) : Int := if thI F z then dy F z.toNat t else -6
theorem dn_y {F : FK} {p : Nat} (hp : p < 6) (hb : F.1.testBit p = true) (t : Int) : dn F (p : Int) t = dy F p t := by
  unfold dn
  rw [thI_n F hp, if_pos hb, Int.toNat_natCast]
theorem dn_n {F : FK} {p : Nat} (hp : p < 6) (hb : F.1.testBit p = false) (t : Int) : dn F (p : Int) t = -6 := by
  unfold dn
  rw [thI_n F hp, if_neg (by rw [hb]; decide)]
theorem dn_0 {F : FK} {z : Int} (hb : thI F z = false) (t : Int) : dn F z t = -6 := by
  unfold dn
  rw [if_neg (by rw [hb]; decide)]
theorem WF.dnr {F : FK} (hW : WF F) (z t : Int) : -6 ≤ dn F z t ∧ dn F z t ≤ 7 := by
  unfold dn
  by_cases h : thI F z = true
  · obtain ⟨p, h1, rfl, h2⟩ := thI_p h
    rw [if_pos h, Int.toNat_natCast]
    have := hW.dy h1 h2 t
    omega
  · rw [if_neg h]; omega
/-- who has a day on a date -/
def hvB (F : FK) (D t : Int) (p : Nat) : Bool := F.1.testBit p && decide (dy F p t = D)
def hv (F : FK) (D t : Int) : Nat := orb (hvB F D t) 6
theorem hv_lt (F : FK) (D t : Int) : hv F D t < 64 := orb_lt _ 6
theorem hvB_t {F : FK} {D t : Int} {p : Nat} (hp : p < 6) (hD : 0 ≤ D) (h : dn F (p : Int) t = D) : hvB F D t p = true := by
  unfold hvB
  cases hb : F.1.testBit p with
  | false => rw [dn_n hp hb] at h; omega
  | true => rw [dn_y hp hb] at h; simp [h]
theorem hvB_f {F : FK} {D t : Int} {p : Nat} (hp : p < 6) (h : dn F (p : Int) t ≠ D) : hvB F D t p = false := by
  unfold hvB
  cases hb : F.1.testBit p with
  | false => rfl
  | true => rw [dn_y hp hb] at h; simp [h]
theorem zI_orb {f : Nat → Bool} {p : Nat} (hp : p < 31) (hf : f p = true) : zI ((orb f p : Nat) : Int) ||| (zI 1 <<< (zI (p : Int) &&& 31)) = zI ((orb f (p + 1) : Nat) : Int) := by
  rw [zI_shl1 hp, zI_or, orb_s, if_pos hf]
theorem orb_no {f : Nat → Bool} {p : Nat} (hf : f p = false) : ((orb f p : Nat) : Int) = ((orb f (p + 1) : Nat) : Int) := by
  rw [orb_s, if_neg (by rw [hf]; decide)]
theorem cnt_y {f : Nat → Bool} {p : Nat} (hf : f p = true) : ((cnt f p : Nat) : Int) + 1 = ((cnt f (p + 1) : Nat) : Int) := by
  rw [cnt_s, if_pos hf]; rfl
theorem cnt_n {f : Nat → Bool} {p : Nat} (hf : f p = false) : ((cnt f p : Nat) : Int) = ((cnt f (p + 1) : Nat) : Int) := by
  rw [cnt_s, if_neg (by rw [hf]; decide)]; rfl
/-- two have the same day -/
def shB (F : FK) (p q : Nat) (t : Nat) : Bool := decide (dy F p (t : Int) = dy F q (t : Int))
def shr (F : FK) (p q N : Nat) : Nat := cnt (shB F p q) N
theorem shr_le (F : FK) (p q N : Nat) : shr F p q N ≤ N := cnt_le _ _
/-- all of a set have a day -/
def ahB (F : FK) (set : Nat) (D t : Int) (p : Nat) : Bool := !(set.testBit p) || hvB F D t p
def ah (F : FK) (set : Nat) (D t : Int) : Bool := alln (ahB F set D t) 6
/-- ever: on one of 840 dates -/
def ev (F : FK) (set : Nat) (D : Int) : Bool := exn (fun t => ah F set D (t : Int)) 840
/-- the day that all of a set have -/
def cdn (F : FK) (set : Nat) (t : Int) : Nat → Int
  | 0 => -6
  | n + 1 => if ah F set (n : Int) t then (n : Int) else cdn F set t n
def cd (F : FK) (set : Nat) (t : Int) : Int := cdn F set t 8
theorem cdn_in (F : FK) (set : Nat) (t : Int) : ∀ n, cdn F set t n = -6 ∨ (0 ≤ cdn F set t n ∧ cdn F set t n < n)
  | 0 => Or.inl rfl
  | n + 1 => by
    unfold cdn
    split
    · right; omega
    · rcases cdn_in F set t n with h | h
      · exact Or.inl h
      · right; omega
theorem cd_in (F : FK) (set : Nat) (t : Int) : -6 ≤ cd F set t ∧ cd F set t ≤ 7 := by
  rcases cdn_in F set t 8 with h | h
  · unfold cd; omega
  · unfold cd; omega
theorem ah_bit {F : FK} {set : Nat} {D t : Int} (h : ah F set D t = true) {p : Nat} (hp : p < 6) (hb : set.testBit p = true) : hvB F D t p = true := by
  have := alln_iff.mp h p hp
  unfold ahB at this
  rw [hb] at this
  simpa using this
theorem hvB_dy {F : FK} {D t : Int} {p : Nat} (h : hvB F D t p = true) : F.1.testBit p = true ∧ dy F p t = D := by
  unfold hvB at h
  rw [Bool.and_eq_true] at h
  exact ⟨h.1, of_decide_eq_true h.2⟩
theorem cdn_no {F : FK} {set : Nat} {t : Int} (h : ∀ D : Nat, ah F set (D : Int) t = false) : ∀ n, cdn F set t n = -6
  | 0 => rfl
  | n + 1 => by
    unfold cdn
    rw [if_neg (by rw [h n]; decide)]
    exact cdn_no h n
theorem cdn_yes {F : FK} {set : Nat} {t : Int} {D : Nat} (h : ah F set (D : Int) t = true) {p : Nat} (hp : p < 6) (hb : set.testBit p = true) : ∀ n, D < n → cdn F set t n = D
  | 0, hn => absurd hn (Nat.not_lt_zero _)
  | n + 1, hn => by
    unfold cdn
    by_cases hD : D = n
    · subst hD; rw [if_pos h]
    · rw [if_neg (fun z => hD ?_)]
      · exact cdn_yes h hp hb n (by omega)
      · have e1 := (hvB_dy (ah_bit h hp hb)).2
        have e2 := (hvB_dy (ah_bit z hp hb)).2
        omega
/-- what the class's commonDay has found when it has looked at those below p -/
def cpre (F : FK) (set : Nat) (t x : Int) (p : Nat) : Prop := (x = -6 ∧ ∀ q, q < p → set.testBit q = false) ∨ (0 ≤ x ∧ x ≤ 7 ∧ (∃ q, q < p ∧ set.testBit q = true) ∧ ∀ q, q < p → set.testBit q = true → F.1.testBit q = true ∧ dy F q t = x)
theorem cpre_0 (F : FK) (set : Nat) (t : Int) : cpre F set t (-6) 0 := Or.inl ⟨rfl, fun q hq => absurd hq (Nat.not_lt_zero _)⟩
theorem cpre_skip {F : FK} {set : Nat} {t x : Int} {p : Nat} (h : cpre F set t x p) (hb : set.testBit p = false) : cpre F set t x (p + 1) := by
  rcases h with ⟨h1, h2⟩ | ⟨h1, h2, ⟨q, hq, hqb⟩, h3⟩
  · refine Or.inl ⟨h1, fun q hq => ?_⟩
    by_cases e : q = p
    · rw [e]; exact hb
    · exact h2 q (by omega)
  · refine Or.inr ⟨h1, h2, ⟨q, by omega, hqb⟩, fun r hr hrb => ?_⟩
    by_cases e : r = p
    · rw [e, hb] at hrb; cases hrb
    · exact h3 r (by omega) hrb
theorem cpre_add {F : FK} {set : Nat} {t x y : Int} {p : Nat} (h : cpre F set t x p) (hb : set.testBit p = true) (ht : F.1.testBit p = true) (hy : y = dy F p t) (hr : 0 ≤ y ∧ y ≤ 7) (hx : x = -6 ∨ y = x) : cpre F set t y (p + 1) := by
  refine Or.inr ⟨hr.1, hr.2, ⟨p, by omega, hb⟩, fun q hq hqb => ?_⟩
  by_cases e : q = p
  · rw [e]; exact ⟨ht, hy.symm⟩
  · rcases h with ⟨h1, h2⟩ | ⟨h1, h2, h3, h4⟩
    · rw [h2 q (by omega)] at hqb; cases hqb
    · have := h4 q (by omega) hqb
      rcases hx with hx | hx
      · omega
      · rw [hx]; exact this
theorem cpre_end {F : FK} {set : Nat} {t x : Int} (h : cpre F set t x 6) (hs : ∃ q, q < 6 ∧ set.testBit q = true) : x = cd F set t := by
  rcases h with ⟨h1, h2⟩ | ⟨h1, h2, ⟨q, hq, hqb⟩, h3⟩
  · obtain ⟨q, hq, hqb⟩ := hs
    rw [h2 q hq] at hqb; cases hqb
  · have ha : ah F set ((x.toNat : Nat) : Int) t = true := alln_iff.mpr (fun r hr => by
      unfold ahB hvB
      cases hrb : set.testBit r with
      | false => rfl
      | true =>
        obtain ⟨e1, e2⟩ := h3 r hr hrb
        rw [e1, e2]
        simp
        omega)
    have := cdn_yes ha hq hqb 8 (by omega)
    unfold cd
    omega
theorem cpre_bad {F : FK} {set : Nat} {t x y : Int} {p : Nat} (h : cpre F set t x p) (hp : p < 6) (hb : set.testBit p = true) (hy : y = dy F p t) (hx : x ≠ -6) (hxy : y ≠ x) : (-6 : Int) = cd F set t := by
  rcases h with ⟨h1, h2⟩ | ⟨h1, h2, ⟨q, hq, hqb⟩, h3⟩
  · exact absurd h1 hx
  · have : ∀ D : Nat, ah F set (D : Int) t = false := fun D => by
      cases hz : ah F set (D : Int) t with
      | false => rfl
      | true =>
        have e1 := (hvB_dy (ah_bit hz hp hb)).2
        have e2 := (hvB_dy (ah_bit hz (by omega) hqb)).2
        have e3 := (h3 q hq hqb).2
        omega
    exact (cdn_no this 8).symm
theorem cpre_in {F : FK} {set : Nat} {t x : Int} {p : Nat} (h : cpre F set t x p) : -6 ≤ x ∧ x ≤ 7 := by
  rcases h with ⟨h1, h2⟩ | ⟨h1, h2, h3⟩ <;> omega
theorem thI_f1 {F : FK} {z : Int} (h : z < 0 ∨ 5 < z) : thI F z = false := by
  unfold thI
  rw [rg_f h]; rfl
theorem no_0 {f : Nat → Bool} {b : Bool} : ∀ i, i < 0 → f i = b := fun i hi => absurd hi (Nat.not_lt_zero _)
theorem no_step {f : Nat → Bool} {b : Bool} {n : Nat} (h : ∀ i, i < n → f i = b) (hn : f n = b) : ∀ i, i < n + 1 → f i = b := fun i hi => by
  by_cases e : i = n
  · rw [e]; exact hn
  · exact h i (by omega)
theorem ahB_f {F : FK} {a : Nat} {D t : Int} {p : Nat} (hb : a.testBit p = false) : ahB F a D t p = true := by unfold ahB; rw [hb]; rfl
theorem ahB_y {F : FK} {a : Nat} {D t : Int} {p : Nat} (hp : p < 6) (hD : 0 ≤ D) (h : dn F (p : Int) t = D) : ahB F a D t p = true := by unfold ahB; rw [hvB_t hp hD h]; simp
theorem ahB_n {F : FK} {a : Nat} {D t : Int} {p : Nat} (hp : p < 6) (hb : a.testBit p = true) (h : dn F (p : Int) t ≠ D) : ahB F a D t p = false := by unfold ahB; rw [hb, hvB_f hp h]; rfl
/-- the first p from k on, n of them, that has f -/
def ffr (f : Nat → Bool) : Nat → Nat → Option Nat
  | 0, _ => none
  | n + 1, p => if f p then some p else ffr f n (p + 1)
theorem ffr_s {f : Nat → Bool} {N p : Nat} (hp : p < N) : ffr f (N - p) p = if f p then some p else ffr f (N - (p + 1)) (p + 1) := by
  obtain ⟨n, hn⟩ : ∃ n, N - p = n + 1 := ⟨N - p - 1, by omega⟩
  rw [hn, show N - (p + 1) = n by omega]
  rfl
theorem ffr_y {f : Nat → Bool} {N p : Nat} (hp : p < N) (h : f p = true) : ffr f (N - p) p = some p := by rw [ffr_s hp, if_pos h]
theorem ffr_n {f : Nat → Bool} {N p : Nat} (hp : p < N) (h : f p = false) : ffr f (N - p) p = ffr f (N - (p + 1)) (p + 1) := by rw [ffr_s hp, if_neg (by rw [h]; decide)]
theorem ffr_e {f : Nat → Bool} {N : Nat} : ffr f (N - N) N = none := by rw [Nat.sub_self]; rfl
/-- twos in their order, from (p, q) on -/
def prs (p q : Nat) : List (Nat × Nat) := ([(0, 1), (0, 2), (0, 3), (0, 4), (0, 5), (1, 2), (1, 3), (1, 4), (1, 5), (2, 3), (2, 4), (2, 5), (3, 4), (3, 5), (4, 5)] : List (Nat × Nat)).filter (fun x => decide (p < x.1) || (decide (x.1 = p) && decide (q ≤ x.2)))
theorem prs_c : ∀ p, p < 6 → ∀ q, q < 6 → p < q → prs p q = (p, q) :: prs p (q + 1) := by decide +kernel
theorem prs_n : ∀ p, p < 6 → prs p 6 = prs (p + 1) (p + 2) := by decide +kernel
theorem prs_e : prs 6 7 = [] := by decide +kernel
/-- how many of the twos have f (i = -1), the i-th -/
def ith (f : Nat → Nat → Bool) (i : Int) : List (Nat × Nat) → Nat → Int
  | [], n => if i = -1 then (n : Int) else -6
  | (p, q) :: r, n => if f p q then (if (n : Int) = i then 10 * (p : Int) + (q : Int) else ith f i r (n + 1)) else ith f i r n
/-- the first two that have f -/
def fpr (f : Nat → Nat → Bool) : List (Nat × Nat) → Int
  | [] => -6
  | (p, q) :: r => if f p q then 10 * (p : Int) + (q : Int) else fpr f r
theorem ith_cg {f g : Nat → Nat → Bool} (i : Int) : ∀ (L : List (Nat × Nat)) (n : Nat), (∀ x ∈ L, f x.1 x.2 = g x.1 x.2) → ith f i L n = ith g i L n
  | [], _, _ => rfl
  | (p, q) :: r, n, h => by
    unfold ith
    rw [h (p, q) List.mem_cons_self, ith_cg i r (n + 1) (fun x hx => h x (List.mem_cons_of_mem _ hx)), ith_cg i r n (fun x hx => h x (List.mem_cons_of_mem _ hx))]
theorem fpr_cg {f g : Nat → Nat → Bool} : ∀ (L : List (Nat × Nat)), (∀ x ∈ L, f x.1 x.2 = g x.1 x.2) → fpr f L = fpr g L
  | [], _ => rfl
  | (p, q) :: r, h => by
    unfold fpr
    rw [h (p, q) List.mem_cons_self, fpr_cg r (fun x hx => h x (List.mem_cons_of_mem _ hx))]
/-- why a work is barred: one who never has the day, or the first two -/
def wn1 (F : FK) (a : Nat) (D : Int) (p : Nat) : Bool := a.testBit p && !(ev F (2 ^ p) D)
def wn2 (F : FK) (a : Nat) (D : Int) (p q : Nat) : Bool := (a.testBit p && a.testBit q) && !(ev F (2 ^ p ||| 2 ^ q) D)
def wn (F : FK) (a : Nat) (D : Int) : Int := match ffr (wn1 F a D) 6 0 with
  | some p => 11 * (p : Int)
  | none => fpr (wn2 F a D) (prs 0 1)
/-- COSTS -/
def cst (F : FK) (p q : Nat) : Int := 28 - (shr F p q 28 : Int)
theorem cst_in (F : FK) (p q : Nat) : 0 ≤ cst F p q ∧ cst F p q ≤ 28 := by
  have := shr_le F p q 28
  unfold cst; omega
def csum (F : FK) (q : Nat) : Nat → Int
  | 0 => 0
  | n + 1 => csum F q n + (if F.1.testBit n then cst F n q else 0)
theorem csum_in (F : FK) (q : Nat) : ∀ n, 0 ≤ csum F q n ∧ csum F q n ≤ 28 * n
  | 0 => by unfold csum; omega
  | n + 1 => by
    have h1 := csum_in F q n
    have h2 := cst_in F n q
    unfold csum
    split <;> omega
/-- twins: the greater one has the lesser one's day of so many dates on -/
def dlB (F : FK) (p q : Nat) (on : Int) (t : Nat) : Bool := decide (dy F q (t : Int) = dy F p ((t : Int) + on))
def dl (F : FK) (p q : Nat) (on : Int) : Bool := alln (dlB F p q on) 840
def twB (F : FK) (p q : Nat) : Bool := dl F p q (-1) || dl F p q 1
