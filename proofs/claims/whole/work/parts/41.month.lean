/-! ===== MONTH in plain words: offsets 0 to 29, 30 is 'not done' ===== -/
def fitB (cn : Nat → Int → Bool) (dj : Nat → Nat → Bool) (L : Nat → Int) (w : Nat) (d : Int) : Bool := cn w d && alln (fun v => !(decide (L v = d)) || dj v w) w
def vld (cn : Nat → Int → Bool) (dj : Nat → Nat → Bool) (L : Nat → Int) (k : Nat) : Prop := ∀ w, w < k → (0 ≤ L w ∧ L w ≤ 30) ∧ (L w < 30 → fitB cn dj L w (L w) = true)
def skp (L : Nat → Int) (k : Nat) : Nat := cnt (fun v => decide (L v = 30)) k
def bef (L M : Nat → Int) (k : Nat) : Prop := ∃ v, v < k ∧ (∀ u, u < v → L u = M u) ∧ L v < M v
theorem fitB_cg {cn : Nat → Int → Bool} {dj : Nat → Nat → Bool} {L M : Nat → Int} {w : Nat} {d : Int} (h : ∀ u, u < w → L u = M u) : fitB cn dj L w d = fitB cn dj M w d := by
  have e : alln (fun v => !(decide (L v = d)) || dj v w) w = alln (fun v => !(decide (M v = d)) || dj v w) w := by
    cases hz : alln (fun v => !(decide (M v = d)) || dj v w) w with
    | true => exact alln_iff.mpr (fun i hi => by have := alln_iff.mp hz i hi; rw [h i hi]; exact this)
    | false =>
      cases hy : alln (fun v => !(decide (L v = d)) || dj v w) w with
      | false => rfl
      | true => rw [← hz]; exact (alln_iff.mpr (fun i hi => by have := alln_iff.mp hy i hi; rw [h i hi] at this; exact this)).symm
  unfold fitB
  rw [e]
theorem fitB_iff {cn : Nat → Int → Bool} {dj : Nat → Nat → Bool} {L : Nat → Int} {w : Nat} {d : Int} : fitB cn dj L w d = true ↔ cn w d = true ∧ ∀ v, v < w → L v = d → dj v w = true := by
  unfold fitB
  rw [Bool.and_eq_true, alln_iff]
  constructor
  · rintro ⟨h1, h2⟩
    refine ⟨h1, fun v hv e => ?_⟩
    have := h2 v hv
    rw [decide_eq_true e] at this
    simpa using this
  · rintro ⟨h1, h2⟩
    refine ⟨h1, fun v hv => ?_⟩
    by_cases e : L v = d
    · rw [h2 v hv e]; simp
    · rw [decide_eq_false e]; rfl
theorem skp_cg {L M : Nat → Int} {k : Nat} (h : ∀ u, u < k → L u = M u) : skp L k = skp M k := cnt_cg (fun i hi => by rw [h i hi])
theorem skp_s (L : Nat → Int) (k : Nat) : skp L (k + 1) = skp L k + (if L k = 30 then 1 else 0) := by
  unfold skp
  rw [cnt_s]
  by_cases h : L k = 30 <;> simp [h]
theorem skp_mono {L : Nat → Int} : ∀ {n k : Nat}, k ≤ n → skp L k ≤ skp L n
  | 0, k, h => by rw [show k = 0 by omega]; exact Nat.le_refl _
  | n + 1, k, h => by
    by_cases e : k = n + 1
    · rw [e]; exact Nat.le_refl _
    · have := skp_mono (L := L) (n := n) (k := k) (by omega)
      rw [skp_s]; omega
theorem skp_le (L : Nat → Int) (k : Nat) : skp L k ≤ k := cnt_le _ k
theorem skp_sub (L : Nat → Int) : ∀ {n k : Nat}, k ≤ n → skp L n ≤ skp L k + (n - k)
  | 0, k, h => by rw [show k = 0 by omega]; omega
  | n + 1, k, h => by
    by_cases e : k = n + 1
    · rw [e]; omega
    · have := skp_sub L (n := n) (k := k) (by omega)
      rw [skp_s]
      split <;> omega
theorem vld_cg {cn : Nat → Int → Bool} {dj : Nat → Nat → Bool} {L M : Nat → Int} {k : Nat} (h : ∀ u, u < k → L u = M u) (hv : vld cn dj L k) : vld cn dj M k := fun w hw => by
  obtain ⟨h1, h2⟩ := hv w hw
  rw [h w hw] at h1 h2
  exact ⟨h1, fun z => by rw [← fitB_cg (L := L) (fun u hu => h u (by omega))]; exact h2 z⟩
theorem vld_le {cn : Nat → Int → Bool} {dj : Nat → Nat → Bool} {L : Nat → Int} {k n : Nat} (hk : k ≤ n) (hv : vld cn dj L n) : vld cn dj L k := fun w hw => hv w (by omega)
theorem vld_s {cn : Nat → Int → Bool} {dj : Nat → Nat → Bool} {L : Nat → Int} {k : Nat} (hv : vld cn dj L k) (h1 : 0 ≤ L k ∧ L k ≤ 30) (h2 : L k < 30 → fitB cn dj L k (L k) = true) : vld cn dj L (k + 1) := fun w hw => by
  by_cases e : w = k
  · rw [e]; exact ⟨h1, h2⟩
  · exact hv w (by omega)
theorem vld_30 (cn : Nat → Int → Bool) (dj : Nat → Nat → Bool) (n : Nat) : vld cn dj (fun _ => 30) n := fun _ _ => ⟨⟨(by decide : (0 : Int) ≤ 30), (by decide : (30 : Int) ≤ 30)⟩, fun z => absurd z (by decide : ¬ (30 : Int) < 30)⟩
theorem bef_cg {L M M' : Nat → Int} {k : Nat} (h : ∀ u, u < k → M u = M' u) (hb : bef L M k) : bef L M' k := by
  obtain ⟨v, h1, h2, h3⟩ := hb
  exact ⟨v, h1, fun u hu => by rw [h2 u hu, h u (by omega)], by rw [← h v h1]; exact h3⟩
theorem bef_cgl {L L' M : Nat → Int} {k : Nat} (h : ∀ u, u < k → L u = L' u) (hb : bef L M k) : bef L' M k := by
  obtain ⟨v, h1, h2, h3⟩ := hb
  exact ⟨v, h1, fun u hu => by rw [← h2 u hu, h u (by omega)], by rw [← h v h1]; exact h3⟩
theorem bef_le {L M : Nat → Int} {k n : Nat} (hk : k ≤ n) (hb : bef L M k) : bef L M n := by
  obtain ⟨v, h1, h2⟩ := hb
  exact ⟨v, by omega, h2⟩
theorem bef_tri {L M : Nat → Int} : ∀ {k : Nat}, ¬ bef L M k → ¬ bef M L k → ∀ v, v < k → L v = M v
  | 0, _, _, v, hv => absurd hv (Nat.not_lt_zero _)
  | k + 1, h1, h2, v, hv => by
    have ih := bef_tri (k := k) (fun z => h1 (bef_le (by omega) z)) (fun z => h2 (bef_le (by omega) z))
    by_cases e : v = k
    · subst e
      by_cases a : L v < M v
      · exact absurd ⟨v, by omega, ih, a⟩ h1
      · by_cases b : M v < L v
        · exact absurd ⟨v, by omega, fun u hu => (ih u hu).symm, b⟩ h2
        · omega
    · exact ih v (by omega)
/-- the best way: the fewest left out; of these the first -/
def mopt (cn : Nat → Int → Bool) (dj : Nat → Nat → Bool) (n : Nat) (L : Nat → Int) : Prop := vld cn dj L n ∧ (∀ M, vld cn dj M n → skp L n ≤ skp M n) ∧ ∀ M, vld cn dj M n → skp M n ≤ skp L n → ¬ bef M L n
theorem mopt_uq {cn : Nat → Int → Bool} {dj : Nat → Nat → Bool} {n : Nat} {L M : Nat → Int} (h : mopt cn dj n L) (h' : mopt cn dj n M) : ∀ v, v < n → L v = M v :=
  bef_tri (fun z => h'.2.2 L h.1 (h.2.1 M h'.1) z) (fun z => h.2.2 M h'.1 (h'.2.1 L h.1) z)
theorem min_ex {α : Type} {Q : α → Prop} (f : α → Nat) (h : ∃ x, Q x) : ∃ x, Q x ∧ ∀ y, Q y → f x ≤ f y := by
  obtain ⟨x0, h0⟩ := h
  suffices ∀ n, ∀ x, f x = n → Q x → ∃ x, Q x ∧ ∀ y, Q y → f x ≤ f y from this _ x0 rfl h0
  intro n
  induction n using Nat.strongRecOn with
  | _ n ih =>
    intro x hx hq
    by_cases hz : ∃ y, Q y ∧ f y < f x
    · obtain ⟨y, h1, h2⟩ := hz
      exact ih (f y) (by omega) y rfl h1
    · exact ⟨x, hq, fun y hy => Nat.le_of_not_lt (fun z => hz ⟨y, hy, z⟩)⟩
theorem lex_ex {Q : (Nat → Int) → Prop} : ∀ n : Nat, (∃ L, Q L) → (∀ L, Q L → ∀ v, v < n → 0 ≤ L v) → ∃ L, Q L ∧ ∀ M, Q M → ¬ bef M L n
  | 0, ⟨L, h⟩, _ => ⟨L, h, fun M _ hb => by obtain ⟨v, hv, _⟩ := hb; exact absurd hv (Nat.not_lt_zero _)⟩
  | n + 1, h, h0 => by
    obtain ⟨L0, a1, a2⟩ := lex_ex n h (fun L hL v hv => h0 L hL v (by omega))
    obtain ⟨L, b1, b2⟩ := min_ex (Q := fun M => Q M ∧ ∀ v, v < n → M v = L0 v) (fun M => (M n).toNat) ⟨L0, a1, fun _ _ => rfl⟩
    refine ⟨L, b1.1, fun M hM hb => ?_⟩
    obtain ⟨v, c1, c2, c3⟩ := hb
    by_cases e : v = n
    · subst e
      have hm := b2 M ⟨hM, fun u hu => by rw [c2 u hu, b1.2 u hu]⟩
      have h1 := h0 M hM v (by omega)
      have h2 := h0 L b1.1 v (by omega)
      omega
    · exact a2 M hM ⟨v, by omega, fun u hu => by rw [c2 u hu, b1.2 u (by omega)], by rw [← b1.2 v (by omega)]; exact c3⟩
theorem mopt_ex (cn : Nat → Int → Bool) (dj : Nat → Nat → Bool) (n : Nat) : ∃ L, mopt cn dj n L := by
  obtain ⟨L1, a1, a2⟩ := min_ex (Q := fun L => vld cn dj L n) (fun L => skp L n) ⟨_, vld_30 cn dj n⟩
  obtain ⟨L, b1, b2⟩ := lex_ex (Q := fun L => vld cn dj L n ∧ skp L n = skp L1 n) n ⟨L1, a1, rfl⟩ (fun L hL v hv => (hL.1 v hv).1.1)
  refine ⟨L, b1.1, fun M hM => by rw [b1.2]; exact a2 M hM, fun M hM hs => ?_⟩
  have := a2 M hM
  exact b2 M ⟨hM, by rw [b1.2] at hs; omega⟩
noncomputable def moL (cn : Nat → Int → Bool) (dj : Nat → Nat → Bool) (n : Nat) : Nat → Int := Classical.choose (mopt_ex cn dj n)
theorem moL_mopt (cn : Nat → Int → Bool) (dj : Nat → Nat → Bool) (n : Nat) : mopt cn dj n (moL cn dj n) := Classical.choose_spec (mopt_ex cn dj n)
/-- what the call answers of a way -/
def moA (t w : Int) (n : Nat) (L : Nat → Int) : Int := if w = -1 then (n : Int) - (skp L n : Int) else if L w.toNat < 30 then t + L w.toNat else -6
theorem moA_eq {cn : Nat → Int → Bool} {dj : Nat → Nat → Bool} {n : Nat} {L : Nat → Int} (h : mopt cn dj n L) {t w : Int} (hw : w = -1 ∨ (0 ≤ w ∧ w < n)) : moA t w n L = moA t w n (moL cn dj n) := by
  have hu := mopt_uq h (moL_mopt cn dj n)
  unfold moA
  rw [skp_cg hu]
  by_cases e : w = -1
  · rw [if_pos e, if_pos e]
  · rw [if_neg e, if_neg e, hu w.toNat (by omega)]
/-! only the first six dates of a work are wanted -/
def rst (cn : Nat → Int → Bool) (L : Nat → Int) (n : Nat) : Prop := ∀ w, w < n → L w < 30 → cnt (fun d : Nat => cn w (d : Int)) (L w).toNat < 6
theorem cnt_rm (f : Nat → Bool) (x : Int) : ∀ N : Nat, cnt f N ≤ cnt (fun d : Nat => f d && decide ((d : Int) ≠ x)) N + 1
  | 0 => Nat.zero_le _
  | N + 1 => by
    by_cases e : (N : Int) = x
    · have h1 : cnt f N = cnt (fun d : Nat => f d && decide ((d : Int) ≠ x)) N := cnt_cg (fun i hi => by rw [decide_eq_true (by omega), Bool.and_true])
      have h2 := cnt_s f N
      have h3 := cnt_s (fun d : Nat => f d && decide ((d : Int) ≠ x)) N
      have h4 : (if f N then 1 else 0) ≤ 1 := by split <;> omega
      omega
    · have ih := cnt_rm f x N
      have h2 := cnt_s f N
      have h3 := cnt_s (fun d : Nat => f d && decide ((d : Int) ≠ x)) N
      have h4 : (f N && decide ((N : Int) ≠ x)) = f N := by rw [decide_eq_true e, Bool.and_true]
      rw [h4] at h3
      omega
theorem pg_ex : ∀ (k : Nat) (f : Nat → Bool) (xs : Nat → Int) (N : Nat), k < cnt f N → ∃ d, d < N ∧ f d = true ∧ ∀ v, v < k → xs v ≠ (d : Int)
  | 0, f, xs, N, h => by
    have h1 : exn f N = true := by
      cases hz : exn f N with
      | true => rfl
      | false => rw [cnt0.mpr hz] at h; omega
    obtain ⟨d, a, b⟩ := exn_iff.mp h1
    exact ⟨d, a, b, fun v hv => absurd hv (Nat.not_lt_zero _)⟩
  | k + 1, f, xs, N, h => by
    have h1 := cnt_rm f (xs k) N
    obtain ⟨d, a, b, c⟩ := pg_ex k (fun d : Nat => f d && decide ((d : Int) ≠ xs k)) xs N (by omega)
    rw [Bool.and_eq_true] at b
    have b2 := of_decide_eq_true b.2
    refine ⟨d, a, b.1, fun v hv => ?_⟩
    by_cases e : v = k
    · rw [e]; exact fun z => b2 z.symm
    · exact c v (by omega)
theorem mopt_rst {cn : Nat → Int → Bool} {dj : Nat → Nat → Bool} {n : Nat} {L : Nat → Int} (hn : n ≤ 6) (h : mopt cn dj n L) : rst cn L n := fun w hw h30 => by
  apply Classical.byContradiction
  intro hc
  obtain ⟨h0, hf⟩ := h.1 w hw
  obtain ⟨d, d1, d2, d3⟩ := pg_ex 5 (fun d : Nat => cn w (d : Int)) (fun v => L (if v < w then v else v + 1)) (L w).toNat (by omega)
  have hfree : ∀ u, u < n → u ≠ w → L u ≠ (d : Int) := fun u hu hne => by
    by_cases a : u < w
    · have := d3 u (by omega)
      simp only [if_pos a] at this
      exact this
    · have := d3 (u - 1) (by omega)
      simp only [if_neg (show ¬ u - 1 < w by omega), show u - 1 + 1 = u by omega] at this
      exact this
  have hMn : ∀ v, v ≠ w → uI L w (d : Int) v = L v := fun v hv => uI_n _ _ hv
  have hM : vld cn dj (uI L w (d : Int)) n := fun v hv => by
    by_cases e : v = w
    · subst e
      rw [uI_s]
      refine ⟨⟨by omega, by omega⟩, fun _ => fitB_iff.mpr ⟨d2, fun u hu z => ?_⟩⟩
      rw [hMn u (by omega)] at z
      exact absurd z (hfree u (by omega) (by omega))
    · rw [hMn v e]
      refine ⟨(h.1 v hv).1, fun z => ?_⟩
      have hfv := fitB_iff.mp ((h.1 v hv).2 z)
      refine fitB_iff.mpr ⟨hfv.1, fun u hu y => ?_⟩
      by_cases a : u = w
      · subst a
        rw [uI_s] at y
        exact absurd y.symm (hfree v hv e)
      · rw [hMn u a] at y
        exact hfv.2 u hu y
  have hs : skp (uI L w (d : Int)) n = skp L n := cnt_cg (fun v hv => by
    by_cases e : v = w
    · subst e
      rw [uI_s, decide_eq_false (by omega), decide_eq_false (by omega)]
    · rw [hMn v e])
  exact h.2.2 _ hM (by omega) ⟨w, hw, fun u hu => hMn u (by omega), by rw [uI_s]; omega⟩
/-- the best among the ways by first six dates -/
def ropt (cn : Nat → Int → Bool) (dj : Nat → Nat → Bool) (n : Nat) (L : Nat → Int) : Prop := vld cn dj L n ∧ ∀ M, vld cn dj M n → rst cn M n → skp L n ≤ skp M n ∧ (skp M n = skp L n → ¬ bef M L n)
theorem ropt_mopt {cn : Nat → Int → Bool} {dj : Nat → Nat → Bool} {n : Nat} {L : Nat → Int} (hn : n ≤ 6) (h : ropt cn dj n L) : mopt cn dj n L := by
  have hm := moL_mopt cn dj n
  have hr := h.2 _ hm.1 (mopt_rst hn hm)
  have hs : skp (moL cn dj n) n = skp L n := Nat.le_antisymm (hm.2.1 L h.1) hr.1
  have he : ∀ v, v < n → moL cn dj n v = L v := bef_tri (hr.2 hs) (fun z => hm.2.2 L h.1 (by omega) z)
  refine ⟨h.1, fun M hM => by rw [← hs]; exact hm.2.1 M hM, fun M hM hq z => hm.2.2 M hM (by omega) (bef_cg (fun u hu => (he u hu).symm) z)⟩
/-! the answer of the call -/
def moC (F : FK) (P : PL) (t : Int) : Nat → Int → Bool := fun w d => ah F (P.2.2 w) (P.2.1 w) (t + d)
def moD (P : PL) : Nat → Nat → Bool := fun v w => decide (P.2.2 v &&& P.2.2 w = 0)
noncomputable def monthR (F : FK) (P : PL) (t w : Int) : Int := if w = -1 ∨ rg w 0 ((P.1 : Int) - 1) = true then (if rg t 0 9970 then moA t w P.1 (moL (moC F P t) (moD P) P.1) else -2) else -1
theorem monthR_y {F : FK} {P : PL} {t w : Int} {L : Nat → Int} (hw : w = -1 ∨ rg w 0 ((P.1 : Int) - 1) = true) (ht : rg t 0 9970 = true) (h : mopt (moC F P t) (moD P) P.1 L) : moA t w P.1 L = monthR F P t w := by
  unfold monthR
  rw [if_pos hw, if_pos ht]
  refine moA_eq h ?_
  rcases hw with e | e
  · exact Or.inl e
  · have := of_rg e
    right; omega
