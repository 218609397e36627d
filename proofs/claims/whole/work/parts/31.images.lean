theorem put_ext {h h' : Hp} {A : Nat → Nat} {C : Nat → va_E} {N : Nat} (hA : inA A N) (h1 : ∀ i, i < N → h' (A i) = some (C i)) (h2 : ∀ q, (∀ i, i < N → q ≠ A i) → h' q = h q) : h' = put h A C N := by
  funext q
  by_cases hq : ∃ i, i < N ∧ q = A i
  · obtain ⟨i, hi, rfl⟩ := hq
    rw [put_get hA i hi]; exact h1 i hi
  · have h3 : ∀ i, i < N → q ≠ A i := fun i hi z => hq ⟨i, hi, z⟩
    rw [put_out h3]; exact h2 q h3
theorem cell_land {G : GG} {A : Nat → Nat} {K : PD} {L L' : LQ} {O : MO} {im : Nat → Option Nat} {IL : Nat → LQ} {X : MX} : ∀ i, (i < 14 ∨ 26 ≤ i) → cell G A (K, L, O, im, IL) X i = cell G A (K, L', O, im, IL) X i := by
  intro i
  by_cases hi : i < 33
  · exact lt33 (P := fun i => (i < 14 ∨ 26 ≤ i) → cell G A (K, L, O, im, IL) X i = cell G A (K, L', O, im, IL) X i) (fun _ => rfl) (fun _ => rfl) (fun _ => rfl) (fun _ => rfl) (fun _ => rfl) (fun _ => rfl) (fun _ => rfl) (fun _ => rfl) (fun _ => rfl) (fun _ => rfl) (fun _ => rfl) (fun _ => rfl) (fun _ => rfl) (fun _ => rfl) (fun h => absurd h (by omega)) (fun h => absurd h (by omega)) (fun h => absurd h (by omega)) (fun h => absurd h (by omega)) (fun h => absurd h (by omega)) (fun h => absurd h (by omega)) (fun h => absurd h (by omega)) (fun h => absurd h (by omega)) (fun h => absurd h (by omega)) (fun h => absurd h (by omega)) (fun h => absurd h (by omega)) (fun h => absurd h (by omega)) (fun _ => rfl) (fun _ => rfl) (fun _ => rfl) (fun _ => rfl) (fun _ => rfl) (fun _ => rfl) (fun _ => rfl) i hi
  · obtain ⟨k, rfl⟩ : ∃ k, i = k + 33 := ⟨i - 33, by omega⟩
    exact fun _ => rfl
theorem cell_l14 {G : GG} {A : Nat → Nat} {K : PD} {L : LQ} {O : MO} {im : Nat → Option Nat} {IL : Nat → LQ} {X : MX} : ∀ j, j < 12 → cell G A (K, L, O, im, IL) X (j + 14) = cL G (fun j => A (j + 14)) L j := lt12 rfl rfl rfl rfl rfl rfl rfl rfl rfl rfl rfl rfl
theorem cell_img {G : GG} {A : Nat → Nat} {K : PD} {L : LQ} {O : MO} {im : Nat → Option Nat} {IL : Nat → LQ} {X : MX} (k j : Nat) (hj : j < 12) : cell G A (K, L, O, im, IL) X (33 + 12 * k + j) = cL G (fun j => A (33 + 12 * k + j)) (IL k) j := by
  obtain ⟨i, hi⟩ : ∃ i, i = 12 * k + j := ⟨_, rfl⟩
  have h0 : 33 + 12 * k + j = i + 33 := by omega
  have h1 : i / 12 = k := by omega
  have h2 : i % 12 = j := by omega
  rw [h0]
  show cL G (fun j => A (j + (33 + 12 * (i / 12)))) (IL (i / 12)) (i % 12) = _
  rw [h1, h2]
  congr 1
  funext x
  rw [Nat.add_comm]
theorem land_at {G : GG} {h : Hp} {A : Nat → Nat} {N : Nat} {K : PD} {L : LQ} {O : MO} {im : Nat → Option Nat} {IL : Nat → LQ} {X : MX} (hA : inA A N) : blkAt G (HP G h A N (K, L, O, im, IL) X) (fun j => A (j + 14)) L := fun j hj => by
  rw [← cell_l14 (K := K) (O := O) (im := im) (IL := IL) (X := X) j hj]
  exact put_get hA (j + 14) (by have := hA.1; omega)
theorem img_at {G : GG} {h : Hp} {A : Nat → Nat} {N : Nat} {K : PD} {L : LQ} {O : MO} {im : Nat → Option Nat} {IL : Nat → LQ} {X : MX} (hA : inA A N) {k : Nat} (hk : 33 + 12 * k + 12 ≤ N) : blkAt G (HP G h A N (K, L, O, im, IL) X) (fun j => A (33 + 12 * k + j)) (IL k) := fun j hj => by
  rw [← cell_img (K := K) (L := L) (O := O) (im := im) (X := X) k j hj]
  exact put_get hA (33 + 12 * k + j) (by omega)
theorem HP_bkL {G : GG} {h h' : Hp} {A : Nat → Nat} {N : Nat} {K : PD} {L L' : LQ} {O : MO} {im : Nat → Option Nat} {IL : Nat → LQ} {X : MX} (hA : inA A N) (B : BK G (HP G h A N (K, L, O, im, IL) X) h' (fun j => A (j + 14)) L') : h' = HP G h A N (K, L', O, im, IL) X := by
  refine put_ext hA (fun i hi => ?_) (fun q hq => ?_)
  · by_cases h1 : 14 ≤ i ∧ i < 26
    · obtain ⟨j, rfl⟩ : ∃ j, i = j + 14 := ⟨i - 14, by omega⟩
      rw [cell_l14 j (by omega)]; exact B.1 j (by omega)
    · rw [B.2 (A i) (fun j hj z => h1 (by have := hA.2 i (j + 14) hi (by have := hA.1; omega) z; omega)), ← cell_land (L := L) i (by omega)]
      exact put_get hA i hi
  · rw [B.2 q (fun j hj => hq (j + 14) (by have := hA.1; omega))]
    exact put_out hq
def updL (IL : Nat → LQ) (k : Nat) (L : LQ) : Nat → LQ := fun j => if j = k then L else IL j
theorem cell_io {G : GG} {A : Nat → Nat} {K : PD} {L : LQ} {O : MO} {im : Nat → Option Nat} {IL : Nat → LQ} {X : MX} {k : Nat} {L' : LQ} (i : Nat) (hi : i < 33 + 12 * k ∨ 33 + 12 * k + 12 ≤ i) : cell G A (K, L, O, im, IL) X i = cell G A (K, L, O, im, updL IL k L') X i := by
  by_cases h : i < 33
  · exact lt33 (P := fun i => cell G A (K, L, O, im, IL) X i = cell G A (K, L, O, im, updL IL k L') X i) rfl rfl rfl rfl rfl rfl rfl rfl rfl rfl rfl rfl rfl rfl rfl rfl rfl rfl rfl rfl rfl rfl rfl rfl rfl rfl rfl rfl rfl rfl rfl rfl rfl i h
  · obtain ⟨j, rfl⟩ : ∃ j, i = j + 33 := ⟨i - 33, by omega⟩
    show cL G (fun x => A (x + (33 + 12 * (j / 12)))) (IL (j / 12)) (j % 12) = cL G (fun x => A (x + (33 + 12 * (j / 12)))) (updL IL k L' (j / 12)) (j % 12)
    unfold updL
    rw [if_neg (by omega)]
theorem HP_bkI {G : GG} {h h' : Hp} {A : Nat → Nat} {N : Nat} {K : PD} {L L' : LQ} {O : MO} {im : Nat → Option Nat} {IL : Nat → LQ} {X : MX} {k : Nat} (hA : inA A N) (hk : 33 + 12 * k + 12 ≤ N) (B : BK G (HP G h A N (K, L, O, im, IL) X) h' (fun j => A (33 + 12 * k + j)) L') : h' = HP G h A N (K, L, O, im, updL IL k L') X := by
  refine put_ext hA (fun i hi => ?_) (fun q hq => ?_)
  · by_cases h1 : 33 + 12 * k ≤ i ∧ i < 33 + 12 * k + 12
    · obtain ⟨j, rfl⟩ : ∃ j, i = 33 + 12 * k + j := ⟨i - (33 + 12 * k), by omega⟩
      rw [cell_img k j (by omega), show updL IL k L' k = L' by unfold updL; rw [if_pos rfl]]; exact B.1 j (by omega)
    · rw [B.2 (A i) (fun j hj z => h1 (by have := hA.2 i (33 + 12 * k + j) hi (by omega) z; omega)), ← cell_io (L := L) i (by omega)]
      exact put_get hA i hi
  · rw [B.2 q (fun j hj => hq (33 + 12 * k + j) (by omega))]
    exact put_out hq
/-- the blocks of the images: how many there are, which image has which -/
def WI (N : Nat) (im : Nat → Option Nat) : Prop := ∃ nb, N = 33 + 12 * nb ∧ (∀ n k, im n = some k → k < nb) ∧ ∀ n n' k, im n = some k → im n' = some k → n = n'
/-- what an image keeps -/
def kp (im : Nat → Option Nat) (IL : Nat → LQ) (n : Nat) : Option (FK × PL × ST) := (im n).map (fun k => ((IL k).1, (IL k).2.1, (IL k).2.2.1))
def restR (kq : Nat → Option (FK × PL × ST)) (z : Int) : Int := if rg z 0 1 then (if (kq z.toNat).isSome then 1 else -3) else -2
def restL (kq : Nat → Option (FK × PL × ST)) (L : FK × PL × ST) (z : Int) : FK × PL × ST := if rg z 0 1 then (match kq z.toNat with | some q => q | none => L) else L
def imgR (z : Int) : Int := if rg z 0 1 then 1 else -2
def imgK (kq : Nat → Option (FK × PL × ST)) (L : FK × PL × ST) (z : Int) : Nat → Option (FK × PL × ST) := if rg z 0 1 then (fun n => if n = z.toNat then some L else kq n) else kq
theorem WI.blk {N : Nat} {im : Nat → Option Nat} (h : WI N im) {n k : Nat} (hk : im n = some k) : 33 + 12 * k + 12 ≤ N := by
  obtain ⟨nb, rfl, h1, _⟩ := h
  have := h1 n k hk
  omega
theorem ap_LI {A : Nat → Nat} {N : Nat} (hA : inA A N) {k : Nat} (hk : 33 + 12 * k + 12 ≤ N) : ∀ i j, i < 12 → j < 12 → (fun j => A (33 + 12 * k + j)) j ≠ (fun j => A (j + 14)) i := fun i j hi hj z => by
  have := hA.2 (33 + 12 * k + j) (i + 14) (by omega) (by omega) z
  omega
theorem inj_L {A : Nat → Nat} {N : Nat} (hA : inA A N) : inj12 (fun j => A (j + 14)) := fun i j hi hj z => by
  have h0 := hA.1
  have := hA.2 (i + 14) (j + 14) (by omega) (by omega) z
  omega
theorem inj_I {A : Nat → Nat} {N : Nat} (hA : inA A N) {k : Nat} (hk : 33 + 12 * k + 12 ≤ N) : inj12 (fun j => A (33 + 12 * k + j)) := fun i j hi hj z => by
  have := hA.2 (33 + 12 * k + i) (33 + 12 * k + j) (by omega) (by omega) z
  omega
theorem kp_up {im : Nat → Option Nat} {IL : Nat → LQ} {N n k : Nat} (h : WI N im) (hk : im n = some k) (F : FK) (P : PL) (T : ST) (V : Nat → Int) : kp im (updL IL k (F, P, T, V)) = fun n' => if n' = n then some (F, P, T) else kp im IL n' := by
  funext x
  unfold kp updL
  by_cases hx : x = n
  · subst hx; rw [hk, if_pos rfl]; simp
  · rw [if_neg hx]
    cases hq : im x with
    | none => rfl
    | some k' =>
      obtain ⟨_, _, _, h3⟩ := h
      have hne : k' ≠ k := fun z => hx (h3 x n k (by rw [hq, z]) hk)
      simp [hne]
def updO (im : Nat → Option Nat) (n : Nat) (k : Nat) : Nat → Option Nat := fun j => if j = n then some k else im j
theorem cell_agree {G : GG} {A A' : Nat → Nat} {K : PD} {L : LQ} {O : MO} {im : Nat → Option Nat} {IL : Nat → LQ} {X : MX} {nb : Nat} (hA : ∀ i, i < 33 + 12 * nb → A' i = A i) (him : ∀ n k, im n = some k → k < nb) (i : Nat) (hi : i < 33 + 12 * nb) : cell G A (K, L, O, im, IL) X i = cell G A' (K, L, O, im, IL) X i := by
  have e : ∀ j, j < 33 → A' j = A j := fun j hj => hA j (by omega)
  have hm : imA A im = imA A' im := by
    funext n
    unfold imA
    cases hq : im n with
    | none => rfl
    | some k => have := him n k hq; show some (A (33 + 12 * k)) = some (A' (33 + 12 * k)); rw [hA (33 + 12 * k) (by omega)]
  by_cases h : i < 33
  · refine lt33 (P := fun i => cell G A (K, L, O, im, IL) X i = cell G A' (K, L, O, im, IL) X i) ?_ ?_ ?_ ?_ ?_ ?_ ?_ ?_ ?_ ?_ ?_ ?_ ?_ ?_ ?_ ?_ ?_ ?_ ?_ ?_ ?_ ?_ ?_ ?_ ?_ ?_ ?_ ?_ ?_ ?_ ?_ ?_ ?_ i h
    all_goals first
      | rfl
      | (simp only [cell, cL, hm]; done)
      | (simp only [cell, cL, e 1 (by decide), e 2 (by decide), e 3 (by decide), e 4 (by decide), e 5 (by decide), e 6 (by decide), e 7 (by decide), e 8 (by decide), e 9 (by decide), e 10 (by decide), e 12 (by decide), e 13 (by decide), e 14 (by decide), e 26 (by decide), e 27 (by decide), e 28 (by decide), e 29 (by decide), e 30 (by decide), e 31 (by decide), e 32 (by decide), e (1 + 14) (by decide), e (2 + 14) (by decide), e (3 + 14) (by decide), e (4 + 14) (by decide), e (5 + 14) (by decide), e (6 + 14) (by decide), e (7 + 14) (by decide), e (8 + 14) (by decide), e (9 + 14) (by decide), e (10 + 14) (by decide), e (11 + 14) (by decide)]; done)
  · obtain ⟨j, rfl⟩ : ∃ j, i = j + 33 := ⟨i - 33, by omega⟩
    show cL G (fun x => A (x + (33 + 12 * (j / 12)))) (IL (j / 12)) (j % 12) = cL G (fun x => A' (x + (33 + 12 * (j / 12)))) (IL (j / 12)) (j % 12)
    have hx : ∀ x, x < 12 → A' (x + (33 + 12 * (j / 12))) = A (x + (33 + 12 * (j / 12))) := fun x hx => hA _ (by omega)
    have hj : j % 12 < 12 := Nat.mod_lt _ (by decide)
    revert hj
    generalize j % 12 = r
    intro hj
    refine lt12 (p := fun r => cL G (fun x => A (x + (33 + 12 * (j / 12)))) (IL (j / 12)) r = cL G (fun x => A' (x + (33 + 12 * (j / 12)))) (IL (j / 12)) r) ?_ ?_ ?_ ?_ ?_ ?_ ?_ ?_ ?_ ?_ ?_ ?_ r hj
    all_goals first
      | rfl
      | (simp only [cL, hx 1 (by decide), hx 2 (by decide), hx 3 (by decide), hx 4 (by decide), hx 5 (by decide), hx 6 (by decide), hx 7 (by decide), hx 8 (by decide), hx 9 (by decide), hx 10 (by decide), hx 11 (by decide)]; done)
theorem cell_imO {G : GG} {A : Nat → Nat} {K : PD} {L : LQ} {O : MO} {im im' : Nat → Option Nat} {IL : Nat → LQ} {X : MX} : ∀ i, i ≠ 26 → cell G A (K, L, O, im, IL) X i = cell G A (K, L, O, im', IL) X i := by
  intro i
  by_cases hi : i < 33
  · exact lt33 (P := fun i => i ≠ 26 → cell G A (K, L, O, im, IL) X i = cell G A (K, L, O, im', IL) X i) (fun _ => rfl) (fun _ => rfl) (fun _ => rfl) (fun _ => rfl) (fun _ => rfl) (fun _ => rfl) (fun _ => rfl) (fun _ => rfl) (fun _ => rfl) (fun _ => rfl) (fun _ => rfl) (fun _ => rfl) (fun _ => rfl) (fun _ => rfl) (fun _ => rfl) (fun _ => rfl) (fun _ => rfl) (fun _ => rfl) (fun _ => rfl) (fun _ => rfl) (fun _ => rfl) (fun _ => rfl) (fun _ => rfl) (fun _ => rfl) (fun _ => rfl) (fun _ => rfl) (fun h => absurd rfl h) (fun _ => rfl) (fun _ => rfl) (fun _ => rfl) (fun _ => rfl) (fun _ => rfl) (fun _ => rfl) i hi
  · obtain ⟨k, rfl⟩ : ∃ k, i = k + 33 := ⟨i - 33, by omega⟩
    exact fun _ => rfl
/-- a new block of a land, and image n has it -/
theorem HP_al {G : GG} {h h' : Hp} {A b : Nat → Nat} {N n q nb : Nat} {e : va_E} {K : PD} {L : LQ} {O : MO} {im : Nat → Option Nat} {IL : Nat → LQ} {X : MX} (hA : inA A N) (hN : N = 33 + 12 * nb) (him : ∀ n k, im n = some k → k < nb) (hq : HP G h A N (K, L, O, im, IL) X q = none) (hb : b 0 = q) (w : NW (hset (HP G h A N (K, L, O, im, IL) X) q e) h' 0 12 b (cL G b L0)) :
    ∃ A' : Nat → Nat, (∀ i, i < N → A' i = A i) ∧ inA A' (N + 12) ∧ A' (33 + 12 * nb) = q ∧ hset h' (A 26) (arL G 2 (va_up (imA A im) n (some q))) = HP G h A' (N + 12) (K, L, O, updO im n nb, updL IL nb L0) X := by
  have hnone : ∀ j, j < 12 → HP G h A N (K, L, O, im, IL) X (b j) = none := fun j hj => by
    by_cases h0 : j = 0
    · subst h0; rw [hb]; exact hq
    · have h3 := w.2.1 j (by omega) hj
      unfold hset at h3
      split at h3
      · exact absurd h3 (by simp)
      · exact h3
  have hne : ∀ i j, i < N → j < 12 → A i ≠ b j := fun i j hi hj z => by
    have h1 := put_get (h := h) (C := cell G A (K, L, O, im, IL) X) hA i hi
    have h2 := hnone j hj
    rw [← z] at h2
    have h3 : HP G h A N (K, L, O, im, IL) X (A i) = some (cell G A (K, L, O, im, IL) X i) := h1
    rw [h3] at h2
    exact absurd h2 (by simp)
  obtain ⟨A', hlo, hhi⟩ : ∃ A' : Nat → Nat, (∀ i, i < N → A' i = A i) ∧ ∀ j, A' (N + j) = b j := ⟨fun i => if i < N then A i else b (i - N), fun i hi => if_pos hi, fun j => by
    show (if N + j < N then A (N + j) else b (N + j - N)) = b j
    rw [if_neg (by omega), Nat.add_sub_cancel_left]⟩
  have hA' : inA A' (N + 12) := by
    refine ⟨by have := hA.1; omega, fun i j hi hj z => ?_⟩
    by_cases h1 : i < N
    · by_cases h2 : j < N
      · rw [hlo i h1, hlo j h2] at z; exact hA.2 i j h1 h2 z
      · obtain ⟨r, rfl⟩ : ∃ r, j = N + r := ⟨j - N, by omega⟩
        rw [hlo i h1, hhi r] at z; exact absurd z (hne i r h1 (by omega))
    · obtain ⟨s, rfl⟩ : ∃ s, i = N + s := ⟨i - N, by omega⟩
      by_cases h2 : j < N
      · rw [hlo j h2, hhi s] at z; exact absurd z.symm (hne j s h2 (by omega))
      · obtain ⟨r, rfl⟩ : ∃ r, j = N + r := ⟨j - N, by omega⟩
        rw [hhi s, hhi r] at z
        have := w.1 s r (by omega) (by omega) (by omega) (by omega) z
        omega
  refine ⟨A', hlo, hA', by have := hhi 0; rw [Nat.add_zero, hN] at this; rw [this]; exact hb, ?_⟩
  have h33 : 33 ≤ N := hA.1
  refine put_ext hA' (fun i hi => ?_) (fun x hx => ?_)
  · by_cases h1 : i < N
    · rw [hlo i h1]
      by_cases h26 : i = 26
      · subst h26
        rw [hset_s]
        show some (arL G 2 (va_up (imA A im) n (some q))) = some (arL G 2 (imA A' (updO im n nb)))
        congr 2
        funext m
        by_cases hm : m = n
        · subst hm
          have e1 : va_up (imA A im) m (some q) m = some q := by unfold va_up; exact if_pos rfl
          have e2 : updO im m nb m = some nb := if_pos rfl
          rw [e1]; unfold imA; rw [e2]
          show some q = some (A' (33 + 12 * nb))
          rw [← hN, show A' N = b 0 from hhi 0, hb]
        · have e1 : va_up (imA A im) n (some q) m = imA A im m := by unfold va_up; exact if_neg hm
          have e2 : updO im n nb m = im m := if_neg hm
          rw [e1]; unfold imA; rw [e2]
          cases hq : im m with
          | none => rfl
          | some k => have := him m k hq; show some (A (33 + 12 * k)) = some (A' (33 + 12 * k)); rw [hlo (33 + 12 * k) (by omega)]
      · rw [hset_n _ _ (fun z => h26 (hA.2 i 26 h1 (by omega) z)), w.2.2.2 (A i) (fun j _ hj => hne i j h1 hj), hset_n _ _ (by have := hne i 0 h1 (by decide); rw [hb] at this; exact this)]
        have h2 : HP G h A N (K, L, O, im, IL) X (A i) = some (cell G A (K, L, O, im, IL) X i) := put_get hA i h1
        rw [h2, cell_agree (A' := A') (fun i hi => hlo i (by omega)) him i (by omega), cell_imO (im' := updO im n nb) i h26, cell_io (k := nb) (L' := L0) i (by omega)]
    · obtain ⟨j, rfl⟩ : ∃ j, i = N + j := ⟨i - N, by omega⟩
      rw [hhi j, hset_n _ _ (fun z => hne 26 j (by omega) (by omega) z.symm), w.2.2.1 j (by omega) (by omega), hN, cell_img nb j (by omega), show updL IL nb L0 nb = L0 by unfold updL; rw [if_pos rfl]]
      congr 2
      funext x
      exact (by have := hhi x; rw [hN] at this; exact this.symm)
  · have h1 : ∀ i, i < N → x ≠ A i := fun i hi z => by have := hx i (by omega); rw [hlo i hi] at this; exact this z
    have h2 : ∀ j, j < 12 → x ≠ b j := fun j hj z => by have := hx (N + j) (by omega); rw [hhi j] at this; exact this z
    rw [hset_n _ _ (h1 26 (by omega)), w.2.2.2 x (fun j _ hj => h2 j hj), hset_n _ _ (by have := h2 0 (by decide); rw [hb] at this; exact this)]
    exact put_out h1
theorem WI_al {im : Nat → Option Nat} {n nb : Nat} (h : im n = none) (h1 : ∀ n k, im n = some k → k < nb) (h2 : ∀ n n' k, im n = some k → im n' = some k → n = n') : WI (33 + 12 * nb + 12) (updO im n nb) := by
  refine ⟨nb + 1, by omega, fun m k hk => ?_, fun m m' k hk hk' => ?_⟩
  · unfold updO at hk
    split at hk
    · have := Option.some.inj hk; omega
    · have := h1 m k hk; omega
  · unfold updO at hk hk'
    split at hk
    · split at hk'
      · omega
      · have := h1 m' k hk'; have := Option.some.inj hk; omega
    · split at hk'
      · have := h1 m k hk; have := Option.some.inj hk'; omega
      · exact h2 m m' k hk hk'
theorem kp_al {im : Nat → Option Nat} {IL : Nat → LQ} {n nb : Nat} (h1 : ∀ n k, im n = some k → k < nb) (F : FK) (P : PL) (T : ST) (V : Nat → Int) (L : LQ) : kp (updO im n nb) (updL (updL IL nb L) nb (F, P, T, V)) = fun n' => if n' = n then some (F, P, T) else kp im IL n' := by
  funext x
  unfold kp updO updL
  by_cases hx : x = n
  · subst hx; rw [if_pos rfl]; simp
  · rw [if_neg hx, if_neg hx]
    cases hq : im x with
    | none => rfl
    | some k' => have := h1 x k' hq; simp [show k' ≠ nb by omega]
section
variable {G : GG} {l : Launch}
variable {h : Hp} {A : Nat → Nat} {N : Nat} {K : PD} {F : FK} {P : PL} {T : ST} {V : Nat → Int} {O : MO} {im : Nat → Option Nat} {IL : Nat → LQ} {X : MX}
set_option maxHeartbeats 4000000 in
set_option maxRecDepth 20000 in
theorem c_X6_restore (d : Nat) (hA : inA A N) (hK : WFK K) (hW : WF F) (hP : WFP P) (hT : WFT T) (hI : WI N im) (z : Int) (hz : inR z) : CT G l mX6_restore (d + 4) 0 0 [.ref (A 11), .int (zI (z))] (HP G h A N (K, (F, P, T, V), O, im, IL) X) (fun o h' => o = some (.int (zI (restR (kp im IL) z))) ∧ h' = HP G h A N (K, ((restL (kp im IL) (F, P, T) z).1, (restL (kp im IL) (F, P, T) z).2.1, (restL (kp im IL) (F, P, T) z).2.2, V), O, im, IL) X) := by
  refine CT.of (by decide) (Nat.le_of_ble_eq_true rfl) (List.forall_mem_cons.mpr ⟨rfl, List.forall_mem_cons.mpr ⟨rfl, fun _ h => absurd h List.not_mem_nil⟩⟩) ?_
  refine EV.lvs (lv' := [some (.ref (A 11)), some (.int (zI (z))), none]) rfl ?_
  have g11 : (HP G h A N (K, (F, P, T, V), O, im, IL) X) (A 11) = some (obj 6 [.ref (A 12), .ref (A 14), .ref (A 26), .ref (A 27)]) := hGet hA _ _ 11 (by decide)
  have g14 : (HP G h A N (K, (F, P, T, V), O, im, IL) X) (A 14) = some (obj 1 [.ref (A 15), .ref (A 20), .ref (A 23)]) := hGet hA _ _ 14 (by decide)
  have g26 : (HP G h A N (K, (F, P, T, V), O, im, IL) X) (A 26) = some (arL G 2 (imA A im)) := hGet hA _ _ 26 (by decide)
  have hK6 := hK.1
  have hP6 := hP.1
  have hT6 := hT.1
  have hth := hW.1
  have hF : FolkAt G (HP G h A N (K, (F, P, T, V), O, im, IL) X) F (A 15) (A 16) (A 17) (A 18) (A 19) V := hFolk hA
  refine EV.iload_n (i := 1) dX6_restore_0 rfl rfl ?_
  refine EV.iconst dX6_restore_1 ?_
  refine EV.callSr (M' := mX6_isOneOf) (as := [.int (zI (z)), .int (zI (2))]) (rest := []) ml_X6_42 sm_X6_isOneOf co_X6_isOneOf dX6_restore_2 (c_X6_isOneOfL (d + 2) z 2 1 rfl (by omega) (by omega)) rfl rfl (Nat.le_of_ble_eq_true rfl) ?_
  refine EV.ifneB (t := 11) dX6_restore_5 (by decide) (fun c5 => ?_) (fun c5 => ?_)
  · skip
    have c5r := of_rg c5
    obtain ⟨n, rfl⟩ : ∃ n : Nat, z = (n : Int) := ⟨z.toNat, by omega⟩
    refine EV.aload_n (i := 0) dX6_restore_11 rfl rfl ?_
    refine EV.getf fl_X6_23 dX6_restore_12 g11 rfl ?_
    refine EV.iload_n (i := 1) dX6_restore_15 rfl rfl ?_
    refine EV.aald dX6_restore_16 g26 (n) (rfl) (by omega) ?_
    rcases him : im n with _ | k
    · skip
      refine EV.sts (st' := [.null]) (by rw [imA, him]; rfl) ?_
      refine EV.astore_nN (i := 2) (lv' := [some (.ref (A 11)), some (.int (zI ((n : Int)))), some (.null)]) dX6_restore_17 rfl (by decide) rfl ?_
      refine EV.aload_nN (i := 2) dX6_restore_18 rfl rfl ?_
      refine EV.nonnullN dX6_restore_19 ?_
      refine EV.bipush dX6_restore_22 (by decide) ?_
      refine EV.iret rfl dX6_restore_24 ?_
      exact ⟨by simp [restR, c5, kp, him], by simp [restL, c5, kp, him]⟩
    · skip
      refine EV.sts (st' := [.ref (A (33 + 12 * k))]) (by rw [imA, him]; rfl) ?_
      have hkN := hI.blk him
      refine EV.astore_n (i := 2) (lv' := [some (.ref (A 11)), some (.int (zI ((n : Int)))), some (.ref (A (33 + 12 * k)))]) dX6_restore_17 rfl (by decide) rfl ?_
      refine EV.aload_n (i := 2) dX6_restore_18 rfl rfl ?_
      refine EV.nonnull (t := 25) dX6_restore_19 (by decide) ?_
      refine EV.aload_n (i := 0) dX6_restore_25 rfl rfl ?_
      refine EV.getf fl_X6_19 dX6_restore_26 g11 rfl ?_
      refine EV.aload_n (i := 2) dX6_restore_29 rfl rfl ?_
      refine EV.callV (M' := mX1_become) (as := [.ref (A (33 + 12 * k))]) (rest := []) ml_X6_203 im_X1_become se_X1_become rfl co_X1_become dX6_restore_30 g14 (c_X1_become (a := fun j => A (j + 14)) (b := fun j => A (33 + 12 * k + j)) (d + 0) (land_at hA) (img_at hA hkN) (inj_L hA) (ap_LI hA hkN)) rfl rfl (Nat.le_of_ble_eq_true rfl) (Nat.le_of_ble_eq_true rfl) (Nat.le_of_ble_eq_true rfl) (fun v30 h30 q30 => ?_)
      obtain ⟨rfl, B⟩ := q30
      refine EV.sts (st' := []) rfl ?_
      have hB := HP_bkL hA B
      refine EV.iconst dX6_restore_33 ?_
      refine EV.iret rfl dX6_restore_34 ?_
      refine ⟨by simp [restR, c5, kp, him], ?_⟩
      rw [hB]
      simp [restL, c5, kp, him]
  · skip
    have c5r := of_nrg c5
    refine EV.bipush dX6_restore_8 (by decide) ?_
    refine EV.iret rfl dX6_restore_10 ?_
    exact ⟨by simp [restR, c5], by simp [restL, c5]⟩
set_option maxHeartbeats 4000000 in
set_option maxRecDepth 20000 in
theorem c_X6_image (d : Nat) (hA : inA A N) (hK : WFK K) (hW : WF F) (hP : WFP P) (hT : WFT T) (hI : WI N im) (z : Int) (hz : inR z) : CT G l mX6_image (d + 4) 12 106 [.ref (A 11), .int (zI (z))] (HP G h A N (K, (F, P, T, V), O, im, IL) X) (fun o h' => o = some (.int (zI (imgR z))) ∧ ∃ (A' : Nat → Nat) (N' : Nat) (im' : Nat → Option Nat) (IL' : Nat → LQ), N ≤ N' ∧ (∀ i, i < N → A' i = A i) ∧ inA A' N' ∧ WI N' im' ∧ kp im' IL' = imgK (kp im IL) (F, P, T) z ∧ h' = HP G h A' N' (K, (F, P, T, V), O, im', IL') X) := by
  refine CT.of (by decide) (Nat.le_of_ble_eq_true rfl) (List.forall_mem_cons.mpr ⟨rfl, List.forall_mem_cons.mpr ⟨rfl, fun _ h => absurd h List.not_mem_nil⟩⟩) ?_
  refine EV.lvs (lv' := [some (.ref (A 11)), some (.int (zI (z))), none]) rfl ?_
  have g11 : (HP G h A N (K, (F, P, T, V), O, im, IL) X) (A 11) = some (obj 6 [.ref (A 12), .ref (A 14), .ref (A 26), .ref (A 27)]) := hGet hA _ _ 11 (by decide)
  have g14 : (HP G h A N (K, (F, P, T, V), O, im, IL) X) (A 14) = some (obj 1 [.ref (A 15), .ref (A 20), .ref (A 23)]) := hGet hA _ _ 14 (by decide)
  have g26 : (HP G h A N (K, (F, P, T, V), O, im, IL) X) (A 26) = some (arL G 2 (imA A im)) := hGet hA _ _ 26 (by decide)
  have hK6 := hK.1
  have hP6 := hP.1
  have hT6 := hT.1
  have hth := hW.1
  have hF : FolkAt G (HP G h A N (K, (F, P, T, V), O, im, IL) X) F (A 15) (A 16) (A 17) (A 18) (A 19) V := hFolk hA
  refine EV.iload_n (i := 1) dX6_image_0 rfl rfl ?_
  refine EV.iconst dX6_image_1 ?_
  refine EV.callSr (M' := mX6_isOneOf) (as := [.int (zI (z)), .int (zI (2))]) (rest := []) ml_X6_42 sm_X6_isOneOf co_X6_isOneOf dX6_image_2 (c_X6_isOneOfL (d + 2) z 2 1 rfl (by omega) (by omega)) rfl rfl (Nat.le_of_ble_eq_true rfl) ?_
  refine EV.ifneB (t := 11) dX6_image_5 (by decide) (fun c5 => ?_) (fun c5 => ?_)
  · skip
    have c5r := of_rg c5
    obtain ⟨n, rfl⟩ : ∃ n : Nat, z = (n : Int) := ⟨z.toNat, by omega⟩
    refine EV.aload_n (i := 0) dX6_image_11 rfl rfl ?_
    refine EV.getf fl_X6_23 dX6_image_12 g11 rfl ?_
    refine EV.iload_n (i := 1) dX6_image_15 rfl rfl ?_
    refine EV.aald dX6_image_16 g26 (n) (rfl) (by omega) ?_
    rcases him : im n with _ | k
    · skip
      refine EV.sts (st' := [.null]) (by rw [imA, him]; rfl) ?_
      refine EV.astore_nN (i := 2) (lv' := [some (.ref (A 11)), some (.int (zI ((n : Int)))), some (.null)]) dX6_image_17 rfl (by decide) rfl ?_
      refine EV.aload_nN (i := 2) dX6_image_18 rfl rfl ?_
      refine EV.nonnullN dX6_image_19 ?_
      refine EV.new (fs := [.null, .null, .null]) fn_X6_16 dX6_image_22 df_X1 (by decide) (by decide) (fun q22 n22 => ?_)
      refine EV.dup dX6_image_25 rfl ?_
      refine EV.callIN (M' := mX1_init) (as := []) (rest := [.ref q22]) rfl rfl (host := RX6) (by decide) im_X1_init co_X1_init dX6_image_26 (c_X1_init (d + 0) (hset_s _ _ _)) rfl rfl (Nat.le_of_ble_eq_true rfl) (Nat.le_of_ble_eq_true rfl) (Nat.le_of_ble_eq_true rfl) (fun v26 h26 q26 => ?_)
      obtain ⟨rfl, a26, ha26, b26⟩ := q26
      refine EV.sts (st' := [.ref q22]) rfl ?_
      have hn22 : ∀ j, j < 33 → ∀ e, HP G h A N (K, (F, P, T, V), O, im, IL) X (A j) = some e → h26 (A j) = some e := fun j hj e he => by
                rw [b26.2.2.2 (A j) (fun i _ hi z => ?_), hset_n _ _ (fun z => ?_), he]
                · rw [← z, he] at n22; exact absurd n22 (by simp)
                · by_cases hi0 : i = 0
                  · subst hi0; rw [z, ha26, n22] at he; exact absurd he (by simp)
                  · have h3 := b26.2.1 i (by omega) hi; unfold hset at h3; split at h3
                    · exact absurd h3 (by simp)
                    · rw [z, h3] at he; exact absurd he (by simp)
      have g11 := hn22 11 (by decide) _ g11
      have g26 := hn22 26 (by decide) _ g26
      have gq := b26.2.2.1 0 (by decide) (by decide)
      rw [ha26] at gq
      refine EV.astore_n (i := 2) (lv' := [some (.ref (A 11)), some (.int (zI ((n : Int)))), some (.ref q22)]) dX6_image_29 rfl (by decide) rfl ?_
      refine EV.aload_n (i := 0) dX6_image_30 rfl rfl ?_
      refine EV.getf fl_X6_23 dX6_image_31 g11 rfl ?_
      refine EV.iload_n (i := 1) dX6_image_34 rfl rfl ?_
      refine EV.aload_n (i := 2) dX6_image_35 rfl rfl ?_
      refine EV.aast dX6_image_36 g26 gq (n) (rfl) (by omega) ?_
      obtain ⟨nb, hN, hI1, hI2⟩ := hI
      obtain ⟨A2, hA2, hAi, hAq, hHP⟩ := HP_al (n := n) hA hN hI1 n22 ha26 b26
      subst hAq
      subst hN
      refine EV.hps hHP ?_
      have hkN : 33 + 12 * nb + 12 ≤ 33 + 12 * nb + 12 := Nat.le_refl _
      have hWI := WI_al him hI1 hI2
      have e11 := hA2 11 (by omega)
      have e14 := hA2 14 (by omega)
      rw [← e11]
      have g11 : (HP G h A2 (33 + 12 * nb + 12) (K, (F, P, T, V), O, updO im n nb, updL IL nb L0) X) (A2 11) = some (obj 6 [.ref (A2 12), .ref (A2 14), .ref (A2 26), .ref (A2 27)]) := hGet hAi _ _ 11 (by decide)
      have hblk : blkAt G (HP G h A2 (33 + 12 * nb + 12) (K, (F, P, T, V), O, updO im n nb, updL IL nb L0) X) (fun j => A2 (33 + 12 * nb + j)) (L0.1, L0.2.1, L0.2.2.1, L0.2.2.2) := by have h5 := img_at (G := G) (h := h) (K := K) (L := (F, P, T, V)) (O := O) (im := updO im n nb) (IL := updL IL nb L0) (X := X) hAi hkN; rw [show updL IL nb L0 nb = L0 from if_pos rfl] at h5; exact h5
      have gk := hblk 0 (by decide)
      refine EV.aload_n (i := 2) dX6_image_37 rfl rfl ?_
      refine EV.aload_n (i := 0) dX6_image_38 rfl rfl ?_
      refine EV.getf fl_X6_19 dX6_image_39 g11 rfl ?_
      refine EV.callV (M' := mX1_become) (as := [.ref (A2 14)]) (rest := []) ml_X6_203 im_X1_become se_X1_become rfl co_X1_become dX6_image_42 gk (c_X1_become (a := fun j => A2 (33 + 12 * nb + j)) (b := fun j => A2 (j + 14)) (d + 0) hblk (land_at hAi) (inj_I hAi hkN) (fun i j hi hj z => ap_LI hAi hkN j i hj hi z.symm)) rfl rfl (Nat.le_of_ble_eq_true rfl) (Nat.le_of_ble_eq_true rfl) (Nat.le_of_ble_eq_true rfl) (fun v42 h42 q42 => ?_)
      obtain ⟨rfl, B⟩ := q42
      refine EV.sts (st' := []) rfl ?_
      have hB := HP_bkI hAi hkN B
      refine EV.iconst dX6_image_45 ?_
      refine EV.iret rfl dX6_image_46 ?_
      exact ⟨by simp [imgR, c5], A2, _, updO im n nb, _, by omega, hA2, hAi, hWI, by rw [kp_al hI1]; simp [imgK, c5], hB⟩
    · skip
      refine EV.sts (st' := [.ref (A (33 + 12 * k))]) (by rw [imA, him]; rfl) ?_
      have hkN := hI.blk him
      have gk := img_at (G := G) (h := h) (K := K) (L := (F, P, T, V)) (O := O) (im := im) (IL := IL) (X := X) hA hkN 0 (by decide)
      refine EV.astore_n (i := 2) (lv' := [some (.ref (A 11)), some (.int (zI ((n : Int)))), some (.ref (A (33 + 12 * k)))]) dX6_image_17 rfl (by decide) rfl ?_
      refine EV.aload_n (i := 2) dX6_image_18 rfl rfl ?_
      refine EV.nonnull (t := 37) dX6_image_19 (by decide) ?_
      refine EV.aload_n (i := 2) dX6_image_37 rfl rfl ?_
      refine EV.aload_n (i := 0) dX6_image_38 rfl rfl ?_
      refine EV.getf fl_X6_19 dX6_image_39 g11 rfl ?_
      refine EV.callV (M' := mX1_become) (as := [.ref (A 14)]) (rest := []) ml_X6_203 im_X1_become se_X1_become rfl co_X1_become dX6_image_42 gk (c_X1_become (a := fun j => A (33 + 12 * k + j)) (b := fun j => A (j + 14)) (d + 0) (img_at hA hkN) (land_at hA) (inj_I hA hkN) (fun i j hi hj z => ap_LI hA hkN j i hj hi z.symm)) rfl rfl (Nat.le_of_ble_eq_true rfl) (Nat.le_of_ble_eq_true rfl) (Nat.le_of_ble_eq_true rfl) (fun v42 h42 q42 => ?_)
      obtain ⟨rfl, B⟩ := q42
      refine EV.sts (st' := []) rfl ?_
      have hB := HP_bkI hA hkN B
      refine EV.iconst dX6_image_45 ?_
      refine EV.iret rfl dX6_image_46 ?_
      exact ⟨by simp [imgR, c5], A, N, im, _, Nat.le_refl _, fun _ _ => rfl, hA, hI, by rw [kp_up hI him]; simp [imgK, c5], hB⟩
  · skip
    have c5r := of_nrg c5
    refine EV.bipush dX6_image_8 (by decide) ?_
    refine EV.iret rfl dX6_image_10 ?_
    exact ⟨by simp [imgR, c5], A, N, im, IL, Nat.le_refl _, fun _ _ => rfl, hA, hI, by simp [imgK, c5], rfl⟩
end
