/-- the greatest number from k down, 1 at least, that divides both -/
def gf (a b : Nat) : Nat → Nat
  | 0 => 1
  | k + 1 => if k = 0 then 1 else if a % (k + 1) = 0 ∧ b % (k + 1) = 0 then k + 1 else gf a b k
theorem gf_pos (a b : Nat) : ∀ k, 1 ≤ gf a b k ∧ gf a b k ≤ k + 1
  | 0 => ⟨Nat.le_refl _, Nat.le_refl _⟩
  | k + 1 => by
    have h := gf_pos a b k
    rw [gf]
    split
    · omega
    · split <;> omega
theorem gf_y {a b k : Nat} (hk : 1 < k) (h1 : Int.tmod (a : Int) (k : Int) = 0) (h2 : Int.tmod (b : Int) (k : Int) = 0) : gf a b k = k := by
  obtain ⟨j, rfl⟩ : ∃ j, k = j + 1 := ⟨k - 1, by omega⟩
  have e1 : ((a % (j + 1) : Nat) : Int) = 0 := h1
  have e2 : ((b % (j + 1) : Nat) : Int) = 0 := h2
  rw [gf, if_neg (by omega), if_pos ⟨by omega, by omega⟩]
theorem gf_n {a b k : Nat} (hk : 1 < k) (h : Int.tmod (a : Int) (k : Int) ≠ 0 ∨ Int.tmod (b : Int) (k : Int) ≠ 0) : gf a b k = gf a b (k - 1) := by
  obtain ⟨j, rfl⟩ : ∃ j, k = j + 1 := ⟨k - 1, by omega⟩
  rw [gf, if_neg (by omega), if_neg]
  · rfl
  · rintro ⟨h1, h2⟩
    rcases h with h | h
    · exact h (show ((a % (j + 1) : Nat) : Int) = 0 by omega)
    · exact h (show ((b % (j + 1) : Nat) : Int) = 0 by omega)
theorem gf_1 {a b k : Nat} (hk : k ≤ 1) : gf a b k = 1 := by
  match k, hk with
  | 0, _ => rfl
  | 1, _ => rfl
/-- those newly born with a day: of way, turn, birth -/
def bnB (D t : Int) (n : Nat) : Bool := decide (bd ((n / 7 % 7 : Nat) : Int) ((n / 49 : Nat) : Int) ((n % 7 : Nat) : Int) t = D)
theorem bnB_e {D t : Int} {W u b : Nat} (hu : u < 7) (hb : b < 7) : bnB D t (49 * W + 7 * u + b) = decide (bd (u : Int) (W : Int) (b : Int) t = D) := by
  unfold bnB
  rw [show (49 * W + 7 * u + b) / 7 % 7 = u by omega, show (49 * W + 7 * u + b) / 49 = W by omega, show (49 * W + 7 * u + b) % 7 = b by omega]
theorem bd_per (tu wy bi t : Int) : bd tu wy bi t = bd tu wy bi (t % 7) := by unfold bd; split <;> omega
def hitN (D : Int) : Nat := if D = 7 then 0 else 14
theorem hits98 {D t : Int} (hD : 0 ≤ D ∧ D ≤ 7) : cnt (bnB D t) 98 = hitN D := by
  have h : ∀ r : Nat, r < 7 → ∀ e : Nat, e < 8 → cnt (bnB (e : Int) (r : Int)) 98 = hitN (e : Int) := by decide +kernel
  have h1 : cnt (bnB D t) 98 = cnt (bnB D (t % 7)) 98 := cnt_cg (fun i _ => by unfold bnB; rw [bd_per])
  obtain ⟨r, hr⟩ : ∃ r : Nat, t % 7 = (r : Int) := ⟨(t % 7).toNat, by omega⟩
  obtain ⟨e, he⟩ : ∃ e : Nat, D = (e : Int) := ⟨D.toNat, by omega⟩
  rw [h1, hr, he]
  exact h r (by omega) e (by omega)
theorem gf_98 (D : Int) : gf (hitN D) 98 98 = if D = 7 then 98 else 14 := by
  unfold hitN
  split <;> decide +kernel
theorem ch_fin {D w : Int} : (Int.tdiv (if w = 0 then (hitN D : Int) else 98) (gf (hitN D) 98 98 : Int)) = chV D w := by
  rw [gf_98]
  unfold hitN chV
  by_cases h : D = 7 <;> by_cases h2 : w = 0 <;> simp only [h, h2, if_true, if_false] <;> rfl
theorem lQ {h : Hp} {x y : Int64} (e : x = y) : (fun o h' => o = some (Value.long y) ∧ h' = h) (some (.long x)) h := ⟨by rw [e], rfl⟩
theorem yr_n {F : FK} {s : Int} {n : Nat} (h : yrM F ((75 * (yrS F s n).1 + 74) % 65537) n = false) : yrS F s (n + 1) = ((75 * (yrS F s n).1 + 74) % 65537, (yrS F s n).2) := by
  rw [yrS]; simp only [h, if_false, Bool.false_eq_true]
theorem yr_y {F : FK} {s : Int} {n : Nat} (h : yrM F ((75 * (yrS F s n).1 + 74) % 65537) n = true) : yrS F s (n + 1) = ((75 * (yrS F s n).1 + 74) % 65537, (yrS F s n).2.1 + 1, (yrS F s n).2.2.1 ||| 2 ^ (dn F (((75 * (yrS F s n).1 + 74) % 65537) % 6) (n : Int)).toNat, (n : Int), if (yrS F s n).2.1 = 0 then 0 else if (yrS F s n).2.2.2.2 < (n : Int) - (yrS F s n).2.2.2.1 then (n : Int) - (yrS F s n).2.2.2.1 else (yrS F s n).2.2.2.2) := by
  rw [yrS]; simp only [h, if_true]
theorem yr_in {F : FK} (hW : WF F) {s : Int} (hs : 0 ≤ s ∧ s ≤ 9999) : ∀ n : Nat, (0 ≤ (yrS F s n).1 ∧ (yrS F s n).1 ≤ 65536) ∧ (yrS F s n).2.1 ≤ n ∧ (yrS F s n).2.2.1 < 256 ∧ (0 ≤ (yrS F s n).2.2.2.1 ∧ (yrS F s n).2.2.2.1 ≤ (n : Int)) ∧ (0 ≤ (yrS F s n).2.2.2.2 ∧ (yrS F s n).2.2.2.2 ≤ (n : Int))
  | 0 => ⟨⟨hs.1, by show s ≤ 65536; omega⟩, Nat.le_refl _, (by decide : (0 : Nat) < 256), ⟨Int.le_refl _, Int.le_refl _⟩, ⟨Int.le_refl _, Int.le_refl _⟩⟩
  | n + 1 => by
    have h := yr_in hW hs n
    cases hm : yrM F ((75 * (yrS F s n).1 + 74) % 65537) n with
    | false => rw [yr_n hm]; exact ⟨⟨by show 0 ≤ (_ : Int) % 65537; omega, by show (_ : Int) % 65537 ≤ _; omega⟩, by have := h.2.1; show (yrS F s n).2.1 ≤ n + 1; omega, h.2.2.1, ⟨h.2.2.2.1.1, by have := h.2.2.2.1.2; show (yrS F s n).2.2.2.1 ≤ _; omega⟩, ⟨h.2.2.2.2.1, by have := h.2.2.2.2.2; show (yrS F s n).2.2.2.2 ≤ _; omega⟩⟩
    | true =>
      rw [yr_y hm]
      have hd := hW.dnr ((75 * (yrS F s n).1 + 74) % 65537 % 6) (n : Int)
      refine ⟨⟨by show 0 ≤ (_ : Int) % 65537; omega, by show (_ : Int) % 65537 ≤ _; omega⟩, by have := h.2.1; show (yrS F s n).2.1 + 1 ≤ n + 1; omega, lor_lt8 h.2.2.1 (by omega), ⟨by show (0 : Int) ≤ (n : Int); omega, by show (n : Int) ≤ _; omega⟩, ?_⟩
      show 0 ≤ (if (yrS F s n).2.1 = 0 then (0 : Int) else if (yrS F s n).2.2.2.2 < (n : Int) - (yrS F s n).2.2.2.1 then (n : Int) - (yrS F s n).2.2.2.1 else (yrS F s n).2.2.2.2) ∧ (if (yrS F s n).2.1 = 0 then (0 : Int) else if (yrS F s n).2.2.2.2 < (n : Int) - (yrS F s n).2.2.2.1 then (n : Int) - (yrS F s n).2.2.2.1 else (yrS F s n).2.2.2.2) ≤ ((n + 1 : Nat) : Int)
      obtain ⟨_, _, _, h1, h2⟩ := h
      split
      · omega
      · split <;> omega
/-- words round at the lower end -/
def wr (x : Int) : Int := if x < -2147483648 then x + 4294967296 else x
theorem zI_wr (x : Int) : zI x = zI (wr x) := by
  unfold wr
  split
  · have h : zI x + zI 4294967296 = zI (x + 4294967296) := zI_add _ _
    have : zI 4294967296 = 0 := by decide
    rw [← h, this, Int32.add_zero]
  · rfl
theorem tdb (z : Int) (n : Int) (hn : 0 < n) : (0 ≤ z → z.tdiv n = z / n) ∧ (z < 0 → z.tdiv n ≤ 0 ∧ z ≤ n * z.tdiv n) ∧ (0 ≤ z → z.tmod n = z % n) := by
  refine ⟨fun h => Int.tdiv_eq_ediv_of_nonneg h, fun h => ?_, fun h => Int.tmod_eq_emod_of_nonneg h⟩
  have h1 : (-z).tdiv n = -(z.tdiv n) := Int.neg_tdiv z n
  have h2 : (-z).tdiv n = (-z) / n := Int.tdiv_eq_ediv_of_nonneg (by omega)
  have h3 : 0 ≤ (-z) / n := Int.ediv_nonneg (by omega) (by omega)
  have h4 : (-z) / n * n ≤ -z := Int.ediv_mul_le _ (by omega)
  have h5 : z.tdiv n = -((-z) / n) := by omega
  refine ⟨by omega, ?_⟩
  rw [h5, Int.mul_neg, Int.mul_comm]
  omega
theorem tmb (z : Int) (n : Int) (hn : 0 < n) : -n < z.tmod n ∧ z.tmod n < n := ⟨by have := Int.lt_tmod_of_pos z hn; omega, Int.tmod_lt_of_pos z hn⟩
theorem tp_1 {F : FK} {z : Int} {p : Nat} (hp : p < 6) (hb : F.1.testBit p = true) (e : z = (p : Int) + 10) : toldP F z = F.2.1 p := by
  subst e
  unfold toldP
  rw [if_pos, show ((p : Int) + 10 - 10) = (p : Int) by omega, Int.toNat_natCast]
  rw [show ((p : Int) + 10 - 10) = (p : Int) by omega, thI_n F hp, hb, rg_t (by omega)]; rfl
theorem tp_2 {F : FK} {z : Int} {p : Nat} (hp : p < 6) (hb : F.1.testBit p = true) (e : z = (p : Int) + 20) : toldP F z = F.2.2.1 p := by
  subst e
  unfold toldP
  rw [if_neg (by rw [rg_f (by omega)]; simp), if_pos, show ((p : Int) + 20 - 20) = (p : Int) by omega, Int.toNat_natCast]
  rw [show ((p : Int) + 20 - 20) = (p : Int) by omega, thI_n F hp, hb, rg_t (by omega)]; rfl
theorem tp_3 {F : FK} {z : Int} {p k : Nat} (hp : p < 6) (hb : F.1.testBit p = true) (hk : k < 100) (e : z = 100 * (p : Int) + 100 + (k : Int)) (hs : (k : Int) < F.2.2.1 p) : toldP F z = F.2.2.2 (8 * p + k) := by
  unfold toldP
  have e1 : z / 100 - 1 = (p : Int) := by omega
  have e2 : z % 100 = (k : Int) := by omega
  rw [if_neg (by rw [rg_f (by omega)]; simp), if_neg (by rw [rg_f (by omega)]; simp), e1, e2, Int.toNat_natCast, Int.toNat_natCast, if_pos]
  rw [rg_t (by omega), thI_n F hp, hb, decide_eq_true hs]; rfl
theorem tp_4 {F : FK} {z : Int} (h1 : thI F (wr (z - 10)) = false) (h2 : thI F (wr (z - 20)) = false) (hz : -2147483648 ≤ z) (h3 : 0 ≤ z → thI F (z / 100 - 1) = true → ¬ z % 100 < F.2.2.1 (z / 100 - 1).toNat) : toldP F z = -2 := by
  unfold toldP
  rw [if_neg, if_neg, if_neg]
  · intro h
    rw [Bool.and_eq_true, Bool.and_eq_true, decide_eq_true_eq] at h
    have := of_rg h.1
    exact h3 (by omega) h.2.1 h.2.2
  · intro h
    rw [Bool.and_eq_true] at h
    have := of_rg h.1
    rw [wr, if_neg (by omega), h.2] at h2
    exact absurd h2 (by decide)
  · intro h
    rw [Bool.and_eq_true] at h
    have := of_rg h.1
    rw [wr, if_neg (by omega), h.2] at h1
    exact absurd h1 (by decide)
theorem wr_in {z k : Int} (hz : inR z) (hk : 0 ≤ k ∧ k ≤ 20) : inR (wr (z - k)) := by
  obtain ⟨a, b⟩ := hz
  unfold wr; split
  · exact ⟨by omega, by omega⟩
  · exact ⟨by omega, by omega⟩
theorem wr_p {z k : Int} {p : Nat} (hz : inR z) (hk : 0 ≤ k ∧ k ≤ 20) (hp : p < 6) (e : wr (z - k) = (p : Int)) : z = (p : Int) + k := by
  obtain ⟨a, b⟩ := hz
  unfold wr at e; split at e <;> omega
section
variable {G : GG} {l : Launch}
variable {h : Hp} {A : Nat → Nat} {N : Nat} {K : PD} {F : FK} {P : PL} {T : ST} {V : Nat → Int} {O : MO} {im : Nat → Option Nat} {IL : Nat → LQ} {X : MX}
set_option maxHeartbeats 4000000 in
set_option maxRecDepth 20000 in
theorem c_X6_greatestFactor (d : Nat) {h : Hp} (a b : Nat) (ha : a ≤ 98) (hb : 1 ≤ b ∧ b ≤ 98) : CT G l mX6_greatestFactor (d + 1) 0 0 [.int (zI ((a : Int))), .int (zI ((b : Int)))] h (RQ h ((gf a b b : Int))) := by
  refine CT.of (by decide) (Nat.le_of_ble_eq_true rfl) (List.forall_mem_cons.mpr ⟨rfl, List.forall_mem_cons.mpr ⟨rfl, fun _ h => absurd h List.not_mem_nil⟩⟩) ?_
  refine EV.lvs (lv' := [some (.int (zI ((a : Int)))), some (.int (zI ((b : Int)))), none]) rfl ?_
  refine EV.iload_n (i := 1) dX6_greatestFactor_0 rfl rfl ?_
  refine EV.istore_n (i := 2) (lv' := [some (.int (zI ((a : Int)))), some (.int (zI ((b : Int)))), some (.int (zI ((b : Int))))]) dX6_greatestFactor_1 rfl (by decide) rfl ?_
  have L2 : ∀ (n2 : Nat) (k : Nat) (x2 : Int), (k ≤ b) → (1 ≤ k) → (gf a b b = gf a b k) → k < n2 → x2 = (k : Int) → EV G l mX6_greatestFactor (d + 1) (RQ h ((gf a b b : Int))) 2 [some (.int (zI ((a : Int)))), some (.int (zI ((b : Int)))), some (.int (zI (x2)))] [] h 0 0 := by
    intro n2
    induction n2 with
    | zero => intro _ _ _ _ _ hm; exact absurd hm (Nat.not_lt_zero _)
    | succ n2 ih2 =>
      intro k x2 hk hk1 hx hm2 e2
      subst e2
      refine EV.iload_n (i := 2) dX6_greatestFactor_2 rfl rfl ?_
      refine EV.iconst dX6_greatestFactor_3 ?_
      refine EV.icmp_le (t := 27) dX6_greatestFactor_4 (by decide) (by omega) (fun c4 => ?_) (fun c4 => ?_)
      · skip
        refine EV.iconst dX6_greatestFactor_27 ?_
        refine EV.iret rfl dX6_greatestFactor_28 ?_
        exact rQ (by rw [hx, gf_1 (by omega)]; rfl)
      · skip
        refine EV.iload_n (i := 0) dX6_greatestFactor_7 rfl rfl ?_
        refine EV.iload_n (i := 2) dX6_greatestFactor_8 rfl rfl ?_
        refine EV.irem dX6_greatestFactor_9 (by omega) ?_
        have htm := tmb (a : Int) (k : Int) (by omega)
        refine EV.ifne (t := 21) dX6_greatestFactor_10 (by decide) (by omega) (fun c10 => ?_) (fun c10 => ?_)
        · skip
          refine EV.iinc (i := 2) (lv' := [some (.int (zI ((a : Int)))), some (.int (zI ((b : Int)))), some (.int (zI ((k : Int) + (-1))))]) dX6_greatestFactor_21 rfl (by decide) rfl ?_
          refine EV.goto (t := 2) dX6_greatestFactor_24 (by decide) ?_
          exact ih2 (k - 1) _ (by omega) (by omega) (hx.trans (gf_n (by omega) (Or.inl c10))) (by omega) (by omega)
        · skip
          refine EV.iload_n (i := 1) dX6_greatestFactor_13 rfl rfl ?_
          refine EV.iload_n (i := 2) dX6_greatestFactor_14 rfl rfl ?_
          refine EV.irem dX6_greatestFactor_15 (by omega) ?_
          have htm2 := tmb (b : Int) (k : Int) (by omega)
          refine EV.ifne (t := 21) dX6_greatestFactor_16 (by decide) (by omega) (fun c16 => ?_) (fun c16 => ?_)
          · skip
            refine EV.iinc (i := 2) (lv' := [some (.int (zI ((a : Int)))), some (.int (zI ((b : Int)))), some (.int (zI ((k : Int) + (-1))))]) dX6_greatestFactor_21 rfl (by decide) rfl ?_
            refine EV.goto (t := 2) dX6_greatestFactor_24 (by decide) ?_
            exact ih2 (k - 1) _ (by omega) (by omega) (hx.trans (gf_n (by omega) (Or.inr c16))) (by omega) (by omega)
          · skip
            refine EV.iload_n (i := 2) dX6_greatestFactor_19 rfl rfl ?_
            refine EV.iret rfl dX6_greatestFactor_20 ?_
            exact rQ (by rw [hx, gf_y (by omega) c10 c16])
  exact L2 _ b _ (by omega) (by omega) (rfl) (Nat.lt_succ_self _) (by rfl)
set_option maxHeartbeats 4000000 in
set_option maxRecDepth 20000 in
theorem c_X6_chanceOfDay (d : Nat) {h : Hp} (D t w : Int) (hD : 0 ≤ D ∧ D ≤ 7) (ht : 0 ≤ t ∧ t ≤ 9999) (hw : 0 ≤ w ∧ w ≤ 1) : CT G l mX6_chanceOfDay (d + 3) 0 0 [.int (zI (D)), .int (zI (t)), .int (zI (w))] h (fun o h' => o = some (.long ((zI (chV D w)).toInt64)) ∧ h' = h) := by
  refine CT.of (by decide) (Nat.le_of_ble_eq_true rfl) (List.forall_mem_cons.mpr ⟨rfl, List.forall_mem_cons.mpr ⟨rfl, List.forall_mem_cons.mpr ⟨rfl, fun _ h => absurd h List.not_mem_nil⟩⟩⟩) ?_
  refine EV.lvs (lv' := [some (.int (zI (D))), some (.int (zI (t))), some (.int (zI (w))), none, none, none, none, none]) rfl ?_
  refine EV.iconst dX6_chanceOfDay_0 ?_
  refine EV.istore_n (i := 3) (lv' := [some (.int (zI (D))), some (.int (zI (t))), some (.int (zI (w))), some (.int (zI (0))), none, none, none, none]) dX6_chanceOfDay_1 rfl (by decide) rfl ?_
  refine EV.iconst dX6_chanceOfDay_2 ?_
  refine EV.istore (i := 4) (lv' := [some (.int (zI (D))), some (.int (zI (t))), some (.int (zI (w))), some (.int (zI (0))), some (.int (zI (0))), none, none, none]) dX6_chanceOfDay_3 (by decide) rfl ?_
  refine EV.iconst dX6_chanceOfDay_5 ?_
  refine EV.istore (i := 5) (lv' := [some (.int (zI (D))), some (.int (zI (t))), some (.int (zI (w))), some (.int (zI (0))), some (.int (zI (0))), some (.int (zI (0))), none, none]) dX6_chanceOfDay_6 (by decide) rfl ?_
  have L8 : ∀ (n8 : Nat) (W : Nat) (x3 x4 x5 : Int), (W ≤ 2) → 2 - W < n8 → x3 = ((cnt (bnB D t) (49 * W) : Nat) : Int) → x4 = ((49 * W : Nat) : Int) → x5 = (W : Int) → EV G l mX6_chanceOfDay (d + 3) (fun o h' => o = some (.long ((zI (chV D w)).toInt64)) ∧ h' = h) 8 [some (.int (zI (D))), some (.int (zI (t))), some (.int (zI (w))), some (.int (zI (x3))), some (.int (zI (x4))), some (.int (zI (x5))), none, none] [] h 0 0 := by
    intro n8
    induction n8 with
    | zero => intro _ _ _ _ _ hm; exact absurd hm (Nat.not_lt_zero _)
    | succ n8 ih8 =>
      intro W x3 x4 x5 hW2 hm8 e3 e4 e5
      subst e3 e4 e5
      have hc0 := cnt_le (bnB D t) (49 * W)
      refine EV.iload (i := 5) dX6_chanceOfDay_8 rfl ?_
      refine EV.iconst dX6_chanceOfDay_10 ?_
      refine EV.icmp_ge (t := 77) dX6_chanceOfDay_11 (by decide) (by omega) (fun c11 => ?_) (fun c11 => ?_)
      · skip
        obtain rfl : W = 2 := by omega
        refine EV.lvs (lv' := [some (.int (zI (D))), some (.int (zI (t))), some (.int (zI (w))), some (.int (zI ((hitN D : Int)))), some (.int (zI (((49 * (2 : Nat) : Nat) : Int)))), some (.int (zI (((2 : Nat) : Int)))), none, none]) (by rw [show cnt (bnB D t) (49 * 2) = hitN D from hits98 hD]) ?_
        refine EV.lvs (lv' := [some (.int (zI (D))), some (.int (zI (t))), some (.int (zI (w))), some (.int (zI ((hitN D : Int)))), some (.int (zI ((98 : Int)))), some (.int (zI (((2 : Nat) : Int)))), none, none]) (rfl) ?_
        have hh : hitN D ≤ 98 := by unfold hitN; split <;> decide
        refine EV.iload_n (i := 2) dX6_chanceOfDay_77 rfl rfl ?_
        refine EV.ifne (t := 85) dX6_chanceOfDay_78 (by decide) (by omega) (fun c78 => ?_) (fun c78 => ?_)
        · skip
          refine EV.iload (i := 4) dX6_chanceOfDay_85 rfl ?_
          refine EV.iload_n (i := 3) dX6_chanceOfDay_87 rfl rfl ?_
          refine EV.iload (i := 4) dX6_chanceOfDay_88 rfl ?_
          refine EV.callSr (M' := mX6_greatestFactor) (as := [.int (zI ((hitN D : Int))), .int (zI ((98 : Int)))]) (rest := [.int (zI ((98 : Int)))]) ml_X6_240 sm_X6_greatestFactor co_X6_greatestFactor dX6_chanceOfDay_90 (c_X6_greatestFactor (d + 1) (hitN D) 98 (by omega) (by omega)) rfl rfl (Nat.le_of_ble_eq_true rfl) ?_
          have hgf := gf_pos (hitN D) 98 98
          refine EV.idiv dX6_chanceOfDay_93 (by omega) ?_
          refine EV.i2l dX6_chanceOfDay_94 ?_
          refine EV.lret rfl dX6_chanceOfDay_95 ?_
          exact lQ (by rw [← ch_fin, if_neg c78])
        · skip
          refine EV.iload_n (i := 3) dX6_chanceOfDay_81 rfl rfl ?_
          refine EV.goto (t := 87) dX6_chanceOfDay_82 (by decide) ?_
          refine EV.iload_n (i := 3) dX6_chanceOfDay_87 rfl rfl ?_
          refine EV.iload (i := 4) dX6_chanceOfDay_88 rfl ?_
          refine EV.callSr (M' := mX6_greatestFactor) (as := [.int (zI ((hitN D : Int))), .int (zI ((98 : Int)))]) (rest := [.int (zI ((hitN D : Int)))]) ml_X6_240 sm_X6_greatestFactor co_X6_greatestFactor dX6_chanceOfDay_90 (c_X6_greatestFactor (d + 1) (hitN D) 98 (by omega) (by omega)) rfl rfl (Nat.le_of_ble_eq_true rfl) ?_
          have hgf := gf_pos (hitN D) 98 98
          refine EV.idiv dX6_chanceOfDay_93 (by omega) ?_
          refine EV.i2l dX6_chanceOfDay_94 ?_
          refine EV.lret rfl dX6_chanceOfDay_95 ?_
          exact lQ (by rw [← ch_fin, if_pos c78])
      · skip
        refine EV.iconst dX6_chanceOfDay_14 ?_
        refine EV.istore (i := 6) (lv' := [some (.int (zI (D))), some (.int (zI (t))), some (.int (zI (w))), some (.int (zI (((cnt (bnB D t) (49 * W) : Nat) : Int)))), some (.int (zI (((49 * W : Nat) : Int)))), some (.int (zI ((W : Int)))), some (.int (zI (0))), none]) dX6_chanceOfDay_15 (by decide) rfl ?_
        have L17 : ∀ (n17 : Nat) (u : Nat) (x3 x4 x6 : Int), (u ≤ 7) → 7 - u < n17 → x3 = ((cnt (bnB D t) (49 * W + 7 * u) : Nat) : Int) → x4 = ((49 * W + 7 * u : Nat) : Int) → x6 = (u : Int) → EV G l mX6_chanceOfDay (d + 3) (fun o h' => o = some (.long ((zI (chV D w)).toInt64)) ∧ h' = h) 17 [some (.int (zI (D))), some (.int (zI (t))), some (.int (zI (w))), some (.int (zI (x3))), some (.int (zI (x4))), some (.int (zI ((W : Int)))), some (.int (zI (x6))), none] [] h 0 0 := by
          intro n17
          induction n17 with
          | zero => intro _ _ _ _ _ hm; exact absurd hm (Nat.not_lt_zero _)
          | succ n17 ih17 =>
            intro u x3 x4 x6 hu hm17 e3 e4 e6
            subst e3 e4 e6
            refine EV.iload (i := 6) dX6_chanceOfDay_17 rfl ?_
            refine EV.bipush dX6_chanceOfDay_19 (by decide) ?_
            refine EV.icmp_ge (t := 71) dX6_chanceOfDay_21 (by decide) (by omega) (fun c21 => ?_) (fun c21 => ?_)
            · skip
              obtain rfl : u = 7 := by omega
              refine EV.iinc (i := 5) (lv' := [some (.int (zI (D))), some (.int (zI (t))), some (.int (zI (w))), some (.int (zI (((cnt (bnB D t) (49 * W + 7 * (7 : Nat)) : Nat) : Int)))), some (.int (zI (((49 * W + 7 * (7 : Nat) : Nat) : Int)))), some (.int (zI ((W : Int) + 1))), some (.int (zI (((7 : Nat) : Int)))), none]) dX6_chanceOfDay_71 rfl (by decide) rfl ?_
              refine EV.goto (t := 8) dX6_chanceOfDay_74 (by decide) ?_
              refine EV.drop 6 (lv' := [some (.int (zI (D))), some (.int (zI (t))), some (.int (zI (w))), some (.int (zI (((cnt (bnB D t) (49 * W + 7 * (7 : Nat)) : Nat) : Int)))), some (.int (zI (((49 * W + 7 * (7 : Nat) : Nat) : Int)))), some (.int (zI (((W : Int) + 1)))), none, none]) rfl ?_
              exact ih8 (W + 1) _ _ _ (by omega) (by omega) (rfl) (rfl) (rfl)
            · skip
              refine EV.iconst dX6_chanceOfDay_24 ?_
              refine EV.istore (i := 7) (lv' := [some (.int (zI (D))), some (.int (zI (t))), some (.int (zI (w))), some (.int (zI (((cnt (bnB D t) (49 * W + 7 * u) : Nat) : Int)))), some (.int (zI (((49 * W + 7 * u : Nat) : Int)))), some (.int (zI ((W : Int)))), some (.int (zI ((u : Int)))), some (.int (zI (0)))]) dX6_chanceOfDay_25 (by decide) rfl ?_
              have L27 : ∀ (n27 : Nat) (b : Nat) (x3 x4 x7 : Int), (b ≤ 7) → 7 - b < n27 → x3 = ((cnt (bnB D t) (49 * W + 7 * u + b) : Nat) : Int) → x4 = ((49 * W + 7 * u + b : Nat) : Int) → x7 = (b : Int) → EV G l mX6_chanceOfDay (d + 3) (fun o h' => o = some (.long ((zI (chV D w)).toInt64)) ∧ h' = h) 27 [some (.int (zI (D))), some (.int (zI (t))), some (.int (zI (w))), some (.int (zI (x3))), some (.int (zI (x4))), some (.int (zI ((W : Int)))), some (.int (zI ((u : Int)))), some (.int (zI (x7)))] [] h 0 0 := by
                intro n27
                induction n27 with
                | zero => intro _ _ _ _ _ hm; exact absurd hm (Nat.not_lt_zero _)
                | succ n27 ih27 =>
                  intro b x3 x4 x7 hb hm27 e3 e4 e7
                  subst e3 e4 e7
                  have hc2 := cnt_le (bnB D t) (49 * W + 7 * u + b)
                  refine EV.iload (i := 7) dX6_chanceOfDay_27 rfl ?_
                  refine EV.bipush dX6_chanceOfDay_29 (by decide) ?_
                  refine EV.icmp_ge (t := 65) dX6_chanceOfDay_31 (by decide) (by omega) (fun c31 => ?_) (fun c31 => ?_)
                  · skip
                    obtain rfl : b = 7 := by omega
                    refine EV.iinc (i := 6) (lv' := [some (.int (zI (D))), some (.int (zI (t))), some (.int (zI (w))), some (.int (zI (((cnt (bnB D t) (49 * W + 7 * u + (7 : Nat)) : Nat) : Int)))), some (.int (zI (((49 * W + 7 * u + (7 : Nat) : Nat) : Int)))), some (.int (zI ((W : Int)))), some (.int (zI ((u : Int) + 1))), some (.int (zI (((7 : Nat) : Int))))]) dX6_chanceOfDay_65 rfl (by decide) rfl ?_
                    refine EV.goto (t := 17) dX6_chanceOfDay_68 (by decide) ?_
                    refine EV.drop 7 (lv' := [some (.int (zI (D))), some (.int (zI (t))), some (.int (zI (w))), some (.int (zI (((cnt (bnB D t) (49 * W + 7 * u + (7 : Nat)) : Nat) : Int)))), some (.int (zI (((49 * W + 7 * u + (7 : Nat) : Nat) : Int)))), some (.int (zI ((W : Int)))), some (.int (zI (((u : Int) + 1)))), none]) rfl ?_
                    exact ih17 (u + 1) _ _ _ (by omega) (by omega) (rfl) (rfl) (rfl)
                  · skip
                    refine EV.iinc (i := 4) (lv' := [some (.int (zI (D))), some (.int (zI (t))), some (.int (zI (w))), some (.int (zI (((cnt (bnB D t) (49 * W + 7 * u + b) : Nat) : Int)))), some (.int (zI (((49 * W + 7 * u + b : Nat) : Int) + 1))), some (.int (zI ((W : Int)))), some (.int (zI ((u : Int)))), some (.int (zI ((b : Int))))]) dX6_chanceOfDay_34 rfl (by decide) rfl ?_
                    refine EV.iload_n (i := 3) dX6_chanceOfDay_37 rfl rfl ?_
                    refine EV.iload (i := 6) dX6_chanceOfDay_38 rfl ?_
                    refine EV.iload (i := 5) dX6_chanceOfDay_40 rfl ?_
                    refine EV.iload (i := 7) dX6_chanceOfDay_42 rfl ?_
                    refine EV.iload_n (i := 1) dX6_chanceOfDay_44 rfl rfl ?_
                    refine EV.callSr (M' := mX6_bornDay) (as := [.int (zI ((u : Int))), .int (zI ((W : Int))), .int (zI ((b : Int))), .int (zI (t))]) (rest := [.int (zI (((cnt (bnB D t) (49 * W + 7 * u + b) : Nat) : Int)))]) ml_X6_236 sm_X6_bornDay co_X6_bornDay dX6_chanceOfDay_45 (c_X6_bornDay (d + 0) (u : Int) (W : Int) (b : Int) t (by omega) (by omega) (by omega) (by omega)) rfl rfl (Nat.le_of_ble_eq_true rfl) ?_
                    have hbd : 0 ≤ bd (u : Int) (W : Int) (b : Int) t ∧ bd (u : Int) (W : Int) (b : Int) t ≤ 6 := by unfold bd; omega
                    refine EV.iload_n (i := 0) dX6_chanceOfDay_48 rfl rfl ?_
                    refine EV.icmp_ne (t := 56) dX6_chanceOfDay_49 (by decide) (by omega) (fun c49 => ?_) (fun c49 => ?_)
                    · skip
                      refine EV.iconst dX6_chanceOfDay_56 ?_
                      refine EV.iadd dX6_chanceOfDay_57 ?_
                      refine EV.istore_n (i := 3) (lv' := [some (.int (zI (D))), some (.int (zI (t))), some (.int (zI (w))), some (.int (zI ((((cnt (bnB D t) (49 * W + 7 * u + b) : Nat) : Int) + 0)))), some (.int (zI ((((49 * W + 7 * u + b : Nat) : Int) + 1)))), some (.int (zI ((W : Int)))), some (.int (zI ((u : Int)))), some (.int (zI ((b : Int))))]) dX6_chanceOfDay_58 rfl (by decide) rfl ?_
                      refine EV.iinc (i := 7) (lv' := [some (.int (zI (D))), some (.int (zI (t))), some (.int (zI (w))), some (.int (zI ((((cnt (bnB D t) (49 * W + 7 * u + b) : Nat) : Int) + 0)))), some (.int (zI ((((49 * W + 7 * u + b : Nat) : Int) + 1)))), some (.int (zI ((W : Int)))), some (.int (zI ((u : Int)))), some (.int (zI ((b : Int) + 1)))]) dX6_chanceOfDay_59 rfl (by decide) rfl ?_
                      refine EV.goto (t := 27) dX6_chanceOfDay_62 (by decide) ?_
                      exact ih27 (b + 1) _ _ _ (by omega) (by omega) (by rw [Int.add_zero]; exact cnt_n (f := bnB D t) (by rw [bnB_e (by omega) (by omega)]; exact decide_eq_false c49)) (rfl) (rfl)
                    · skip
                      refine EV.iconst dX6_chanceOfDay_52 ?_
                      refine EV.goto (t := 57) dX6_chanceOfDay_53 (by decide) ?_
                      refine EV.iadd dX6_chanceOfDay_57 ?_
                      refine EV.istore_n (i := 3) (lv' := [some (.int (zI (D))), some (.int (zI (t))), some (.int (zI (w))), some (.int (zI ((((cnt (bnB D t) (49 * W + 7 * u + b) : Nat) : Int) + 1)))), some (.int (zI ((((49 * W + 7 * u + b : Nat) : Int) + 1)))), some (.int (zI ((W : Int)))), some (.int (zI ((u : Int)))), some (.int (zI ((b : Int))))]) dX6_chanceOfDay_58 rfl (by decide) rfl ?_
                      refine EV.iinc (i := 7) (lv' := [some (.int (zI (D))), some (.int (zI (t))), some (.int (zI (w))), some (.int (zI ((((cnt (bnB D t) (49 * W + 7 * u + b) : Nat) : Int) + 1)))), some (.int (zI ((((49 * W + 7 * u + b : Nat) : Int) + 1)))), some (.int (zI ((W : Int)))), some (.int (zI ((u : Int)))), some (.int (zI ((b : Int) + 1)))]) dX6_chanceOfDay_59 rfl (by decide) rfl ?_
                      refine EV.goto (t := 27) dX6_chanceOfDay_62 (by decide) ?_
                      exact ih27 (b + 1) _ _ _ (by omega) (by omega) (cnt_y (f := bnB D t) (by rw [bnB_e (by omega) (by omega)]; exact decide_eq_true c49)) (rfl) (rfl)
              exact L27 _ 0 _ _ _ (by omega) (Nat.lt_succ_self _) (rfl) (rfl) (rfl)
        exact L17 _ 0 _ _ _ (by omega) (Nat.lt_succ_self _) (rfl) (rfl) (rfl)
  exact L8 _ 0 _ _ _ (by omega) (Nat.lt_succ_self _) (rfl) (rfl) (rfl)
set_option maxHeartbeats 4000000 in
set_option maxRecDepth 20000 in
theorem c_X6_chance (d : Nat) (hA : inA A N) (hK : WFK K) (hW : WF F) (hP : WFP P) (hT : WFT T) (D t w : Int) (hD : inR D) (ht : inR t) (hw : inR w) : CT G l mX6_chance (d + 4) 0 0 [.ref (A 11), .int (zI (D)), .int (zI (t)), .int (zI (w))] (HP G h A N (K, (F, P, T, V), O, im, IL) X) (fun o h' => o = some (.long (chanceR D t w)) ∧ h' = HP G h A N (K, (F, P, T, V), O, im, IL) X) := by
  refine CT.of (by decide) (Nat.le_of_ble_eq_true rfl) (List.forall_mem_cons.mpr ⟨rfl, List.forall_mem_cons.mpr ⟨rfl, List.forall_mem_cons.mpr ⟨rfl, List.forall_mem_cons.mpr ⟨rfl, fun _ h => absurd h List.not_mem_nil⟩⟩⟩⟩) ?_
  refine EV.lvs (lv' := [some (.ref (A 11)), some (.int (zI (D))), some (.int (zI (t))), some (.int (zI (w)))]) rfl ?_
  have hK6 := hK.1
  have hP6 := hP.1
  have hT6 := hT.1
  have hth := hW.1
  have hF : FolkAt G (HP G h A N (K, (F, P, T, V), O, im, IL) X) F (A 15) (A 16) (A 17) (A 18) (A 19) V := hFolk hA
  refine EV.iload_n (i := 1) dX6_chance_0 rfl rfl ?_
  refine EV.bipush dX6_chance_1 (by decide) ?_
  refine EV.callSr (M' := mX6_isOneOf) (as := [.int (zI (D)), .int (zI (8))]) (rest := []) ml_X6_42 sm_X6_isOneOf co_X6_isOneOf dX6_chance_3 (c_X6_isOneOfL (d + 2) D 8 7 rfl (by omega) (by omega)) rfl rfl (Nat.le_of_ble_eq_true rfl) ?_
  refine EV.ifneB (t := 13) dX6_chance_6 (by decide) (fun c6 => ?_) (fun c6 => ?_)
  · skip
    have c6r := of_rg c6
    refine EV.iload_n (i := 2) dX6_chance_13 rfl rfl ?_
    refine EV.callSr (M' := mX6_isDate) (as := [.int (zI (t))]) (rest := []) ml_X6_92 sm_X6_isDate co_X6_isDate dX6_chance_14 (c_X6_isDate (d + 2) t (by omega)) rfl rfl (Nat.le_of_ble_eq_true rfl) ?_
    refine EV.ifeqB (t := 28) dX6_chance_17 (by decide) (fun c17 => ?_) (fun c17 => ?_)
    · skip
      have c17r := of_nrg c17
      refine EV.ldc2 dX6_chance_28 ct_X6_193 ?_
      refine EV.lret rfl dX6_chance_31 ?_
      exact ⟨by simp [chanceR, c6, c17], rfl⟩
    · skip
      have c17r := of_rg c17
      refine EV.iload_n (i := 3) dX6_chance_20 rfl rfl ?_
      refine EV.iconst dX6_chance_21 ?_
      refine EV.callSr (M' := mX6_isOneOf) (as := [.int (zI (w)), .int (zI (2))]) (rest := []) ml_X6_42 sm_X6_isOneOf co_X6_isOneOf dX6_chance_22 (c_X6_isOneOfL (d + 2) w 2 1 rfl (by omega) (by omega)) rfl rfl (Nat.le_of_ble_eq_true rfl) ?_
      refine EV.ifneB (t := 32) dX6_chance_25 (by decide) (fun c25 => ?_) (fun c25 => ?_)
      · skip
        have c25r := of_rg c25
        refine EV.iload_n (i := 1) dX6_chance_32 rfl rfl ?_
        refine EV.iload_n (i := 2) dX6_chance_33 rfl rfl ?_
        refine EV.iload_n (i := 3) dX6_chance_34 rfl rfl ?_
        refine EV.callSr (M' := mX6_chanceOfDay) (as := [.int (zI (D)), .int (zI (t)), .int (zI (w))]) (rest := []) ml_X6_195 sm_X6_chanceOfDay co_X6_chanceOfDay dX6_chance_35 (c_X6_chanceOfDay (d + 0) D t w (by omega) (by omega) (by omega)) rfl rfl (Nat.le_of_ble_eq_true rfl) ?_
        refine EV.lret rfl dX6_chance_38 ?_
        exact ⟨by simp [chanceR, c6, c17, c25], rfl⟩
      · skip
        have c25r := of_nrg c25
        refine EV.ldc2 dX6_chance_28 ct_X6_193 ?_
        refine EV.lret rfl dX6_chance_31 ?_
        exact ⟨by simp [chanceR, c6, c25], rfl⟩
  · skip
    have c6r := of_nrg c6
    refine EV.ldc2 dX6_chance_9 ct_X6_191 ?_
    refine EV.lret rfl dX6_chance_12 ?_
    exact ⟨by simp [chanceR, c6], rfl⟩
set_option maxHeartbeats 4000000 in
set_option maxRecDepth 20000 in
theorem c_X6_shares (d : Nat) (hA : inA A N) (hK : WFK K) (hW : WF F) (hP : WFP P) (hT : WFT T) (z t w : Int) (hz : inR z) (ht : inR t) (hw : inR w) : CT G l mX6_shares (d + 4) 0 0 [.ref (A 11), .int (zI (z)), .int (zI (t)), .int (zI (w))] (HP G h A N (K, (F, P, T, V), O, im, IL) X) (fun o h' => o = some (.long (sharesR F z t w)) ∧ h' = HP G h A N (K, (F, P, T, V), O, im, IL) X) := by
  refine CT.of (by decide) (Nat.le_of_ble_eq_true rfl) (List.forall_mem_cons.mpr ⟨rfl, List.forall_mem_cons.mpr ⟨rfl, List.forall_mem_cons.mpr ⟨rfl, List.forall_mem_cons.mpr ⟨rfl, fun _ h => absurd h List.not_mem_nil⟩⟩⟩⟩) ?_
  refine EV.lvs (lv' := [some (.ref (A 11)), some (.int (zI (z))), some (.int (zI (t))), some (.int (zI (w)))]) rfl ?_
  have g11 : (HP G h A N (K, (F, P, T, V), O, im, IL) X) (A 11) = some (obj 6 [.ref (A 12), .ref (A 14), .ref (A 26), .ref (A 27)]) := hGet hA _ _ 11 (by decide)
  have g14 : (HP G h A N (K, (F, P, T, V), O, im, IL) X) (A 14) = some (obj 1 [.ref (A 15), .ref (A 20), .ref (A 23)]) := hGet hA _ _ 14 (by decide)
  have g15 : (HP G h A N (K, (F, P, T, V), O, im, IL) X) (A 15) = some (obj 0 [.int (zI ((F.1 : Int))), .ref (A 16), .ref (A 17), .ref (A 18), .ref (A 19)]) := hGet hA _ _ 15 (by decide)
  have hK6 := hK.1
  have hP6 := hP.1
  have hT6 := hT.1
  have hth := hW.1
  have hF : FolkAt G (HP G h A N (K, (F, P, T, V), O, im, IL) X) F (A 15) (A 16) (A 17) (A 18) (A 19) V := hFolk hA
  refine EV.aload_n (i := 0) dX6_shares_0 rfl rfl ?_
  refine EV.iload_n (i := 1) dX6_shares_1 rfl rfl ?_
  refine EV.callVr (M' := mX6_isThere) (as := [.int (zI (z))]) (rest := []) ml_X6_69 im_X6_isThere se_X6_isThere rfl co_X6_isThere dX6_shares_2 g11 (c_X6_isThere (d + 0) hA hK hW hP hT z (by omega)) rfl rfl (Nat.le_of_ble_eq_true rfl) ?_
  refine EV.ifneB (t := 12) dX6_shares_5 (by decide) (fun c5 => ?_) (fun c5 => ?_)
  · skip
    obtain ⟨p, hp, rfl, hbp⟩ := thI_p c5
    have hdr := hW.dy hp hbp t
    refine EV.iload_n (i := 2) dX6_shares_12 rfl rfl ?_
    refine EV.callSr (M' := mX6_isDate) (as := [.int (zI (t))]) (rest := []) ml_X6_92 sm_X6_isDate co_X6_isDate dX6_shares_13 (c_X6_isDate (d + 2) t (by omega)) rfl rfl (Nat.le_of_ble_eq_true rfl) ?_
    refine EV.ifeqB (t := 27) dX6_shares_16 (by decide) (fun c16 => ?_) (fun c16 => ?_)
    · skip
      have c16r := of_nrg c16
      refine EV.ldc2 dX6_shares_27 ct_X6_193 ?_
      refine EV.lret rfl dX6_shares_30 ?_
      exact ⟨by simp [sharesR, c5, c16], rfl⟩
    · skip
      have c16r := of_rg c16
      refine EV.iload_n (i := 3) dX6_shares_19 rfl rfl ?_
      refine EV.iconst dX6_shares_20 ?_
      refine EV.callSr (M' := mX6_isOneOf) (as := [.int (zI (w)), .int (zI (2))]) (rest := []) ml_X6_42 sm_X6_isOneOf co_X6_isOneOf dX6_shares_21 (c_X6_isOneOfL (d + 2) w 2 1 rfl (by omega) (by omega)) rfl rfl (Nat.le_of_ble_eq_true rfl) ?_
      refine EV.ifneB (t := 31) dX6_shares_24 (by decide) (fun c24 => ?_) (fun c24 => ?_)
      · skip
        have c24r := of_rg c24
        refine EV.aload_n (i := 0) dX6_shares_31 rfl rfl ?_
        refine EV.getf fl_X6_19 dX6_shares_32 g11 rfl ?_
        refine EV.getf fl_X6_56 dX6_shares_35 g14 rfl ?_
        refine EV.iload_n (i := 1) dX6_shares_38 rfl rfl ?_
        refine EV.iload_n (i := 2) dX6_shares_39 rfl rfl ?_
        refine EV.callVr (M' := mX0_dayOn) (as := [.int (zI ((p : Int))), .int (zI (t))]) (rest := []) ml_X6_95 im_X0_dayOn se_X0_dayOn rfl co_X0_dayOn dX6_shares_40 g15 (c_X0_dayOn (d + 1) hF hW (p : Int) t (by omega) (by omega)) rfl rfl (Nat.le_of_ble_eq_true rfl) ?_
        refine EV.top (y := zI (dy F p t)) (by rw [dn_y hp hbp]) ?_
        refine EV.iload_n (i := 2) dX6_shares_43 rfl rfl ?_
        refine EV.iload_n (i := 3) dX6_shares_44 rfl rfl ?_
        refine EV.callSr (M' := mX6_chanceOfDay) (as := [.int (zI (dy F p t)), .int (zI (t)), .int (zI (w))]) (rest := []) ml_X6_195 sm_X6_chanceOfDay co_X6_chanceOfDay dX6_shares_45 (c_X6_chanceOfDay (d + 0) (dy F p t) t w (by omega) (by omega) (by omega)) rfl rfl (Nat.le_of_ble_eq_true rfl) ?_
        refine EV.lret rfl dX6_shares_48 ?_
        exact ⟨by rw [sharesR, if_pos c5, if_pos (by rw [c16, c24]; rfl), dn_y hp hbp], rfl⟩
      · skip
        have c24r := of_nrg c24
        refine EV.ldc2 dX6_shares_27 ct_X6_193 ?_
        refine EV.lret rfl dX6_shares_30 ?_
        exact ⟨by simp [sharesR, c5, c24], rfl⟩
  · skip
    refine EV.ldc2 dX6_shares_8 ct_X6_191 ?_
    refine EV.lret rfl dX6_shares_11 ?_
    exact ⟨by simp [sharesR, c5], rfl⟩
set_option maxHeartbeats 4000000 in
set_option maxRecDepth 20000 in
theorem c_X6_year (d : Nat) (hA : inA A N) (hK : WFK K) (hW : WF F) (hP : WFP P) (hT : WFT T) (s m w : Int) (hs : inR s) (hm : inR m) (hw : inR w) : CT G l mX6_year (d + 5) 0 0 [.ref (A 11), .int (zI (s)), .int (zI (m)), .int (zI (w))] (HP G h A N (K, (F, P, T, V), O, im, IL) X) (RQ (HP G h A N (K, (F, P, T, V), O, im, IL) X) (yearR F s m w)) := by
  refine CT.of (by decide) (Nat.le_of_ble_eq_true rfl) (List.forall_mem_cons.mpr ⟨rfl, List.forall_mem_cons.mpr ⟨rfl, List.forall_mem_cons.mpr ⟨rfl, List.forall_mem_cons.mpr ⟨rfl, fun _ h => absurd h List.not_mem_nil⟩⟩⟩⟩) ?_
  refine EV.lvs (lv' := [some (.ref (A 11)), some (.int (zI (s))), some (.int (zI (m))), some (.int (zI (w))), none, none, none, none, none, none, none, none]) rfl ?_
  have g11 : (HP G h A N (K, (F, P, T, V), O, im, IL) X) (A 11) = some (obj 6 [.ref (A 12), .ref (A 14), .ref (A 26), .ref (A 27)]) := hGet hA _ _ 11 (by decide)
  have g14 : (HP G h A N (K, (F, P, T, V), O, im, IL) X) (A 14) = some (obj 1 [.ref (A 15), .ref (A 20), .ref (A 23)]) := hGet hA _ _ 14 (by decide)
  have g15 : (HP G h A N (K, (F, P, T, V), O, im, IL) X) (A 15) = some (obj 0 [.int (zI ((F.1 : Int))), .ref (A 16), .ref (A 17), .ref (A 18), .ref (A 19)]) := hGet hA _ _ 15 (by decide)
  have hK6 := hK.1
  have hP6 := hP.1
  have hT6 := hT.1
  have hth := hW.1
  have hF : FolkAt G (HP G h A N (K, (F, P, T, V), O, im, IL) X) F (A 15) (A 16) (A 17) (A 18) (A 19) V := hFolk hA
  refine EV.iload_n (i := 1) dX6_year_0 rfl rfl ?_
  refine EV.sipush dX6_year_1 (by decide) ?_
  refine EV.callSr (M' := mX6_isOneOf) (as := [.int (zI (s)), .int (zI (10000))]) (rest := []) ml_X6_42 sm_X6_isOneOf co_X6_isOneOf dX6_year_4 (c_X6_isOneOfL (d + 3) s 10000 9999 rfl (by omega) (by omega)) rfl rfl (Nat.le_of_ble_eq_true rfl) ?_
  refine EV.ifeqB (t := 30) dX6_year_7 (by decide) (fun c7 => ?_) (fun c7 => ?_)
  · skip
    have c7r := of_nrg c7
    refine EV.bipush dX6_year_30 (by decide) ?_
    refine EV.iret rfl dX6_year_32 ?_
    exact rQ (by simp [yearR, c7])
  · skip
    have c7r := of_rg c7
    refine EV.iload_n (i := 2) dX6_year_10 rfl rfl ?_
    refine EV.iconst dX6_year_11 ?_
    refine EV.icmp_lt (t := 30) dX6_year_12 (by decide) (by omega) (fun c12 => ?_) (fun c12 => ?_)
    · skip
      refine EV.bipush dX6_year_30 (by decide) ?_
      refine EV.iret rfl dX6_year_32 ?_
      exact rQ (by rw [yearR, if_neg (fun hh => by simp only [Bool.and_eq_true, rg, decide_eq_true_eq] at hh; omega)])
    · skip
      refine EV.iload_n (i := 2) dX6_year_15 rfl rfl ?_
      refine EV.sipush dX6_year_16 (by decide) ?_
      refine EV.icmp_gt (t := 30) dX6_year_19 (by decide) (by omega) (fun c19 => ?_) (fun c19 => ?_)
      · skip
        refine EV.bipush dX6_year_30 (by decide) ?_
        refine EV.iret rfl dX6_year_32 ?_
        exact rQ (by rw [yearR, if_neg (fun hh => by simp only [Bool.and_eq_true, rg, decide_eq_true_eq] at hh; omega)])
      · skip
        refine EV.iload_n (i := 3) dX6_year_22 rfl rfl ?_
        refine EV.iconst dX6_year_23 ?_
        refine EV.callSr (M' := mX6_isOneOf) (as := [.int (zI (w)), .int (zI (3))]) (rest := []) ml_X6_42 sm_X6_isOneOf co_X6_isOneOf dX6_year_24 (c_X6_isOneOfL (d + 3) w 3 2 rfl (by omega) (by omega)) rfl rfl (Nat.le_of_ble_eq_true rfl) ?_
        refine EV.ifneB (t := 33) dX6_year_27 (by decide) (fun c27 => ?_) (fun c27 => ?_)
        · skip
          have c27r := of_rg c27
          obtain ⟨mm, rfl⟩ : ∃ mm : Nat, m = (mm : Int) := ⟨m.toNat, by omega⟩
          refine EV.iload_n (i := 1) dX6_year_33 rfl rfl ?_
          refine EV.istore (i := 4) (lv' := [some (.ref (A 11)), some (.int (zI (s))), some (.int (zI ((mm : Int)))), some (.int (zI (w))), some (.int (zI (s))), none, none, none, none, none, none, none]) dX6_year_34 (by decide) rfl ?_
          refine EV.iconst dX6_year_36 ?_
          refine EV.istore (i := 5) (lv' := [some (.ref (A 11)), some (.int (zI (s))), some (.int (zI ((mm : Int)))), some (.int (zI (w))), some (.int (zI (s))), some (.int (zI (0))), none, none, none, none, none, none]) dX6_year_37 (by decide) rfl ?_
          refine EV.iconst dX6_year_39 ?_
          refine EV.istore (i := 6) (lv' := [some (.ref (A 11)), some (.int (zI (s))), some (.int (zI ((mm : Int)))), some (.int (zI (w))), some (.int (zI (s))), some (.int (zI (0))), some (.int (zI (0))), none, none, none, none, none]) dX6_year_40 (by decide) rfl ?_
          refine EV.iconst dX6_year_42 ?_
          refine EV.istore (i := 7) (lv' := [some (.ref (A 11)), some (.int (zI (s))), some (.int (zI ((mm : Int)))), some (.int (zI (w))), some (.int (zI (s))), some (.int (zI (0))), some (.int (zI (0))), some (.int (zI (0))), none, none, none, none]) dX6_year_43 (by decide) rfl ?_
          refine EV.iconst dX6_year_45 ?_
          refine EV.istore (i := 8) (lv' := [some (.ref (A 11)), some (.int (zI (s))), some (.int (zI ((mm : Int)))), some (.int (zI (w))), some (.int (zI (s))), some (.int (zI (0))), some (.int (zI (0))), some (.int (zI (0))), some (.int (zI (0))), none, none, none]) dX6_year_46 (by decide) rfl ?_
          refine EV.iconst dX6_year_48 ?_
          refine EV.istore (i := 9) (lv' := [some (.ref (A 11)), some (.int (zI (s))), some (.int (zI ((mm : Int)))), some (.int (zI (w))), some (.int (zI (s))), some (.int (zI (0))), some (.int (zI (0))), some (.int (zI (0))), some (.int (zI (0))), some (.int (zI (0))), none, none]) dX6_year_49 (by decide) rfl ?_
          have L51 : ∀ (n51 : Nat) (n : Nat) (x4 x5 x6 x7 x8 x9 : Int), (n ≤ mm) → mm - n < n51 → x4 = (yrS F s n).1 → x5 = ((yrS F s n).2.1 : Int) → x6 = ((yrS F s n).2.2.1 : Int) → x7 = (yrS F s n).2.2.2.1 → x8 = (yrS F s n).2.2.2.2 → x9 = (n : Int) → EV G l mX6_year (d + 5) (RQ (HP G h A N (K, (F, P, T, V), O, im, IL) X) (yearR F s (mm : Int) w)) 51 [some (.ref (A 11)), some (.int (zI (s))), some (.int (zI ((mm : Int)))), some (.int (zI (w))), some (.int (zI (x4))), some (.int (zI (x5))), some (.int (zI (x6))), some (.int (zI (x7))), some (.int (zI (x8))), some (.int (zI (x9))), none, none] [] (HP G h A N (K, (F, P, T, V), O, im, IL) X) 0 0 := by
            intro n51
            induction n51 with
            | zero => intro _ _ _ _ _ _ _ _ hm; exact absurd hm (Nat.not_lt_zero _)
            | succ n51 ih51 =>
              intro n x4 x5 x6 x7 x8 x9 hn hm51 e4 e5 e6 e7 e8 e9
              subst e4 e5 e6 e7 e8 e9
              have hyi := yr_in hW c7r n
              refine EV.iload (i := 9) dX6_year_51 rfl ?_
              refine EV.iload_n (i := 2) dX6_year_53 rfl rfl ?_
              refine EV.icmp_ge (t := 172) dX6_year_54 (by decide) (by omega) (fun c54 => ?_) (fun c54 => ?_)
              · skip
                have hnm : mm = n := by omega
                subst hnm
                refine EV.iload_n (i := 3) dX6_year_172 rfl rfl ?_
                refine EV.ifne (t := 179) dX6_year_173 (by decide) (by omega) (fun c173 => ?_) (fun c173 => ?_)
                · skip
                  refine EV.iload_n (i := 3) dX6_year_179 rfl rfl ?_
                  refine EV.iconst dX6_year_180 ?_
                  refine EV.icmp_ne (t := 192) dX6_year_181 (by decide) (by omega) (fun c181 => ?_) (fun c181 => ?_)
                  · skip
                    refine EV.iload (i := 8) dX6_year_192 rfl ?_
                    refine EV.iret rfl dX6_year_194 ?_
                    exact rQ (by rw [yearR, if_pos (by rw [c7, c27, rg_t (by omega)]; rfl), Int.toNat_natCast, if_neg c173, if_neg c181])
                  · skip
                    refine EV.iload (i := 6) dX6_year_184 rfl ?_
                    refine EV.callSr (M' := mJ6_bitCount_0f7a4) (as := [.int (zI (((yrS F s mm).2.2.1 : Int)))]) (rest := []) ml_X6_75 sm_J6_bitCount_0f7a4 co_J6_bitCount_0f7a4 dX6_year_186 (c_J6_bitCount_0f7a4 (d + 3) (yrS F s mm).2.2.1 (by omega)) rfl rfl (Nat.le_of_ble_eq_true rfl) ?_
                    refine EV.goto (t := 194) dX6_year_189 (by decide) ?_
                    refine EV.iret rfl dX6_year_194 ?_
                    exact rQ (by rw [yearR, if_pos (by rw [c7, c27, rg_t (by omega)]; rfl), Int.toNat_natCast, if_neg c173, if_pos c181])
                · skip
                  refine EV.iload (i := 5) dX6_year_176 rfl ?_
                  refine EV.iret rfl dX6_year_178 ?_
                  exact rQ (by rw [yearR, if_pos (by rw [c7, c27, rg_t (by omega)]; rfl), Int.toNat_natCast, if_pos c173])
              · skip
                refine EV.bipush dX6_year_57 (by decide) ?_
                refine EV.iload (i := 4) dX6_year_59 rfl ?_
                refine EV.imul dX6_year_61 ?_
                refine EV.bipush dX6_year_62 (by decide) ?_
                refine EV.iadd dX6_year_64 ?_
                refine EV.ldc dX6_year_65 ct_X6_199 ?_
                refine EV.irem dX6_year_67 (by omega) ?_
                refine EV.top (y := zI (((75 * (yrS F s n).1 + 74) % 65537))) (by rw [Int.tmod_eq_emod_of_nonneg (by omega)]) ?_
                refine EV.istore (i := 4) (lv' := [some (.ref (A 11)), some (.int (zI (s))), some (.int (zI ((mm : Int)))), some (.int (zI (w))), some (.int (zI (((75 * (yrS F s n).1 + 74) % 65537)))), some (.int (zI (((yrS F s n).2.1 : Int)))), some (.int (zI (((yrS F s n).2.2.1 : Int)))), some (.int (zI ((yrS F s n).2.2.2.1))), some (.int (zI ((yrS F s n).2.2.2.2))), some (.int (zI ((n : Int)))), none, none]) dX6_year_68 (by decide) rfl ?_
                refine EV.iload (i := 4) dX6_year_70 rfl ?_
                refine EV.bipush dX6_year_72 (by decide) ?_
                refine EV.irem dX6_year_74 (by omega) ?_
                refine EV.top (y := zI (((75 * (yrS F s n).1 + 74) % 65537) % 6)) (by rw [Int.tmod_eq_emod_of_nonneg (by omega)]) ?_
                refine EV.istore (i := 10) (lv' := [some (.ref (A 11)), some (.int (zI (s))), some (.int (zI ((mm : Int)))), some (.int (zI (w))), some (.int (zI (((75 * (yrS F s n).1 + 74) % 65537)))), some (.int (zI (((yrS F s n).2.1 : Int)))), some (.int (zI (((yrS F s n).2.2.1 : Int)))), some (.int (zI ((yrS F s n).2.2.2.1))), some (.int (zI ((yrS F s n).2.2.2.2))), some (.int (zI ((n : Int)))), some (.int (zI (((75 * (yrS F s n).1 + 74) % 65537) % 6))), none]) dX6_year_75 (by decide) rfl ?_
                refine EV.iload (i := 4) dX6_year_77 rfl ?_
                refine EV.bipush dX6_year_79 (by decide) ?_
                refine EV.idiv dX6_year_81 (by omega) ?_
                refine EV.top (y := zI (((75 * (yrS F s n).1 + 74) % 65537) / 6)) (by rw [Int.tdiv_eq_ediv_of_nonneg (by omega)]) ?_
                refine EV.bipush dX6_year_82 (by decide) ?_
                refine EV.irem dX6_year_84 (by omega) ?_
                refine EV.top (y := zI (((75 * (yrS F s n).1 + 74) % 65537) / 6 % 6)) (by rw [Int.tmod_eq_emod_of_nonneg (by omega)]) ?_
                refine EV.istore (i := 11) (lv' := [some (.ref (A 11)), some (.int (zI (s))), some (.int (zI ((mm : Int)))), some (.int (zI (w))), some (.int (zI (((75 * (yrS F s n).1 + 74) % 65537)))), some (.int (zI (((yrS F s n).2.1 : Int)))), some (.int (zI (((yrS F s n).2.2.1 : Int)))), some (.int (zI ((yrS F s n).2.2.2.1))), some (.int (zI ((yrS F s n).2.2.2.2))), some (.int (zI ((n : Int)))), some (.int (zI (((75 * (yrS F s n).1 + 74) % 65537) % 6))), some (.int (zI (((75 * (yrS F s n).1 + 74) % 65537) / 6 % 6)))]) dX6_year_85 (by decide) rfl ?_
                refine EV.aload_n (i := 0) dX6_year_87 rfl rfl ?_
                refine EV.iload (i := 10) dX6_year_88 rfl ?_
                refine EV.iload (i := 11) dX6_year_90 rfl ?_
                refine EV.callVr (M' := mX6_areTwoThere) (as := [.int (zI (((75 * (yrS F s n).1 + 74) % 65537) % 6)), .int (zI (((75 * (yrS F s n).1 + 74) % 65537) / 6 % 6))]) (rest := []) ml_X6_108 im_X6_areTwoThere se_X6_areTwoThere rfl co_X6_areTwoThere dX6_year_92 g11 (c_X6_areTwoThere (d + 0) hA hK hW hP hT (((75 * (yrS F s n).1 + 74) % 65537) % 6) (((75 * (yrS F s n).1 + 74) % 65537) / 6 % 6) (by omega) (by omega)) rfl rfl (Nat.le_of_ble_eq_true rfl) ?_
                refine EV.ifeqB (t := 166) dX6_year_95 (by decide) (fun c95 => ?_) (fun c95 => ?_)
                · skip
                  have hmf : yrM F ((75 * (yrS F s n).1 + 74) % 65537) n = false := by unfold yrM; rw [c95]; rfl
                  have y1 : ((75 * (yrS F s n).1 + 74) % 65537) = (yrS F s (n + 1)).1 := by rw [yr_n hmf]
                  have y2 : ((yrS F s n).2.1 : Int) = ((yrS F s (n + 1)).2.1 : Int) := by rw [yr_n hmf]
                  have y3 : ((yrS F s n).2.2.1 : Int) = ((yrS F s (n + 1)).2.2.1 : Int) := by rw [yr_n hmf]
                  have y4 : (yrS F s n).2.2.2.1 = (yrS F s (n + 1)).2.2.2.1 := by rw [yr_n hmf]
                  have y5 : (yrS F s n).2.2.2.2 = (yrS F s (n + 1)).2.2.2.2 := by rw [yr_n hmf]
                  refine EV.iinc (i := 9) (lv' := [some (.ref (A 11)), some (.int (zI (s))), some (.int (zI ((mm : Int)))), some (.int (zI (w))), some (.int (zI (((75 * (yrS F s n).1 + 74) % 65537)))), some (.int (zI (((yrS F s n).2.1 : Int)))), some (.int (zI (((yrS F s n).2.2.1 : Int)))), some (.int (zI ((yrS F s n).2.2.2.1))), some (.int (zI ((yrS F s n).2.2.2.2))), some (.int (zI ((n : Int) + 1))), some (.int (zI (((75 * (yrS F s n).1 + 74) % 65537) % 6))), some (.int (zI (((75 * (yrS F s n).1 + 74) % 65537) / 6 % 6)))]) dX6_year_166 rfl (by decide) rfl ?_
                  refine EV.goto (t := 51) dX6_year_169 (by decide) ?_
                  refine EV.drop 10 (lv' := [some (.ref (A 11)), some (.int (zI (s))), some (.int (zI ((mm : Int)))), some (.int (zI (w))), some (.int (zI (((75 * (yrS F s n).1 + 74) % 65537)))), some (.int (zI (((yrS F s n).2.1 : Int)))), some (.int (zI (((yrS F s n).2.2.1 : Int)))), some (.int (zI ((yrS F s n).2.2.2.1))), some (.int (zI ((yrS F s n).2.2.2.2))), some (.int (zI (((n : Int) + 1)))), none, some (.int (zI (((75 * (yrS F s n).1 + 74) % 65537) / 6 % 6)))]) rfl ?_
                  refine EV.drop 11 (lv' := [some (.ref (A 11)), some (.int (zI (s))), some (.int (zI ((mm : Int)))), some (.int (zI (w))), some (.int (zI (((75 * (yrS F s n).1 + 74) % 65537)))), some (.int (zI (((yrS F s n).2.1 : Int)))), some (.int (zI (((yrS F s n).2.2.1 : Int)))), some (.int (zI ((yrS F s n).2.2.2.1))), some (.int (zI ((yrS F s n).2.2.2.2))), some (.int (zI (((n : Int) + 1)))), none, none]) rfl ?_
                  exact ih51 (n + 1) _ _ _ _ _ _ (by omega) (by omega) (y1) (y2) (y3) (y4) (y5) (rfl)
                · skip
                  obtain ⟨p, q, hp, hq, e1, e2, hbp, hbq, hpq⟩ := twI_of c95
                  refine EV.lvs (lv' := [some (.ref (A 11)), some (.int (zI (s))), some (.int (zI ((mm : Int)))), some (.int (zI (w))), some (.int (zI (((75 * (yrS F s n).1 + 74) % 65537)))), some (.int (zI (((yrS F s n).2.1 : Int)))), some (.int (zI (((yrS F s n).2.2.1 : Int)))), some (.int (zI ((yrS F s n).2.2.2.1))), some (.int (zI ((yrS F s n).2.2.2.2))), some (.int (zI ((n : Int)))), some (.int (zI ((p : Int)))), some (.int (zI (((75 * (yrS F s n).1 + 74) % 65537) / 6 % 6)))]) (by rw [e1]) ?_
                  refine EV.lvs (lv' := [some (.ref (A 11)), some (.int (zI (s))), some (.int (zI ((mm : Int)))), some (.int (zI (w))), some (.int (zI (((75 * (yrS F s n).1 + 74) % 65537)))), some (.int (zI (((yrS F s n).2.1 : Int)))), some (.int (zI (((yrS F s n).2.2.1 : Int)))), some (.int (zI ((yrS F s n).2.2.2.1))), some (.int (zI ((yrS F s n).2.2.2.2))), some (.int (zI ((n : Int)))), some (.int (zI ((p : Int)))), some (.int (zI ((q : Int))))]) (by rw [e2]) ?_
                  have hd := hW.dy hp hbp (n : Int)
                  have hxm : yrM F ((75 * (yrS F s n).1 + 74) % 65537) n = decide (dy F p (n : Int) = dy F q (n : Int)) := by unfold yrM; rw [c95, e1, e2, dn_y hp hbp, dn_y hq hbq]; rfl
                  have hx6 : dn F (((75 * (yrS F s n).1 + 74) % 65537) % 6) (n : Int) = dy F p (n : Int) := by rw [e1, dn_y hp hbp]
                  refine EV.aload_n (i := 0) dX6_year_98 rfl rfl ?_
                  refine EV.getf fl_X6_19 dX6_year_99 g11 rfl ?_
                  refine EV.getf fl_X6_56 dX6_year_102 g14 rfl ?_
                  refine EV.iload (i := 10) dX6_year_105 rfl ?_
                  refine EV.iload (i := 11) dX6_year_107 rfl ?_
                  refine EV.iload (i := 9) dX6_year_109 rfl ?_
                  refine EV.callVr (M' := mX0_share) (as := [.int (zI ((p : Int))), .int (zI ((q : Int))), .int (zI ((n : Int)))]) (rest := []) ml_X6_200 im_X0_share se_X0_share rfl co_X0_share dX6_year_111 g15 (c_X0_share (d + 1) hF hW p q hp hq hbp hbq (n : Int) (by omega)) rfl rfl (Nat.le_of_ble_eq_true rfl) ?_
                  refine EV.ifeqB (t := 166) dX6_year_114 (by decide) (fun c114 => ?_) (fun c114 => ?_)
                  · skip
                    have hmf : yrM F ((75 * (yrS F s n).1 + 74) % 65537) n = false := by rw [hxm]; exact c114
                    have y1 : ((75 * (yrS F s n).1 + 74) % 65537) = (yrS F s (n + 1)).1 := by rw [yr_n hmf]
                    have y2 : ((yrS F s n).2.1 : Int) = ((yrS F s (n + 1)).2.1 : Int) := by rw [yr_n hmf]
                    have y3 : ((yrS F s n).2.2.1 : Int) = ((yrS F s (n + 1)).2.2.1 : Int) := by rw [yr_n hmf]
                    have y4 : (yrS F s n).2.2.2.1 = (yrS F s (n + 1)).2.2.2.1 := by rw [yr_n hmf]
                    have y5 : (yrS F s n).2.2.2.2 = (yrS F s (n + 1)).2.2.2.2 := by rw [yr_n hmf]
                    refine EV.iinc (i := 9) (lv' := [some (.ref (A 11)), some (.int (zI (s))), some (.int (zI ((mm : Int)))), some (.int (zI (w))), some (.int (zI (((75 * (yrS F s n).1 + 74) % 65537)))), some (.int (zI (((yrS F s n).2.1 : Int)))), some (.int (zI (((yrS F s n).2.2.1 : Int)))), some (.int (zI ((yrS F s n).2.2.2.1))), some (.int (zI ((yrS F s n).2.2.2.2))), some (.int (zI ((n : Int) + 1))), some (.int (zI ((p : Int)))), some (.int (zI ((q : Int))))]) dX6_year_166 rfl (by decide) rfl ?_
                    refine EV.goto (t := 51) dX6_year_169 (by decide) ?_
                    refine EV.drop 10 (lv' := [some (.ref (A 11)), some (.int (zI (s))), some (.int (zI ((mm : Int)))), some (.int (zI (w))), some (.int (zI (((75 * (yrS F s n).1 + 74) % 65537)))), some (.int (zI (((yrS F s n).2.1 : Int)))), some (.int (zI (((yrS F s n).2.2.1 : Int)))), some (.int (zI ((yrS F s n).2.2.2.1))), some (.int (zI ((yrS F s n).2.2.2.2))), some (.int (zI (((n : Int) + 1)))), none, some (.int (zI ((q : Int))))]) rfl ?_
                    refine EV.drop 11 (lv' := [some (.ref (A 11)), some (.int (zI (s))), some (.int (zI ((mm : Int)))), some (.int (zI (w))), some (.int (zI (((75 * (yrS F s n).1 + 74) % 65537)))), some (.int (zI (((yrS F s n).2.1 : Int)))), some (.int (zI (((yrS F s n).2.2.1 : Int)))), some (.int (zI ((yrS F s n).2.2.2.1))), some (.int (zI ((yrS F s n).2.2.2.2))), some (.int (zI (((n : Int) + 1)))), none, none]) rfl ?_
                    exact ih51 (n + 1) _ _ _ _ _ _ (by omega) (by omega) (y1) (y2) (y3) (y4) (y5) (rfl)
                  · skip
                    have hyy := yr_y (F := F) (s := s) (n := n) (by rw [hxm]; exact c114)
                    rw [hx6] at hyy
                    refine EV.iload (i := 5) dX6_year_117 rfl ?_
                    refine EV.ifne (t := 126) dX6_year_119 (by decide) (by omega) (fun c119 => ?_) (fun c119 => ?_)
                    · skip
                      refine EV.iload (i := 8) dX6_year_126 rfl ?_
                      refine EV.iload (i := 9) dX6_year_128 rfl ?_
                      refine EV.iload (i := 7) dX6_year_130 rfl ?_
                      refine EV.isub dX6_year_132 ?_
                      refine EV.callSr (M' := mJ9_max_7cf53) (as := [.int (zI ((yrS F s n).2.2.2.2)), .int (zI (((n : Int) - (yrS F s n).2.2.2.1)))]) (rest := []) ml_X6_132 sm_J9_max_7cf53 co_J9_max_7cf53 dX6_year_133 (c_J9_max_7cf53 (d + 3) ((yrS F s n).2.2.2.2) ((n : Int) - (yrS F s n).2.2.2.1) (by omega) (by omega)) rfl rfl (Nat.le_of_ble_eq_true rfl) ?_
                      refine EV.istore (i := 8) (lv' := [some (.ref (A 11)), some (.int (zI (s))), some (.int (zI ((mm : Int)))), some (.int (zI (w))), some (.int (zI (((75 * (yrS F s n).1 + 74) % 65537)))), some (.int (zI (((yrS F s n).2.1 : Int)))), some (.int (zI (((yrS F s n).2.2.1 : Int)))), some (.int (zI ((yrS F s n).2.2.2.1))), some (.int (zI ((if (yrS F s n).2.2.2.2 < ((n : Int) - (yrS F s n).2.2.2.1) then ((n : Int) - (yrS F s n).2.2.2.1) else (yrS F s n).2.2.2.2)))), some (.int (zI ((n : Int)))), some (.int (zI ((p : Int)))), some (.int (zI ((q : Int))))]) dX6_year_136 (by decide) rfl ?_
                      refine EV.iload (i := 9) dX6_year_138 rfl ?_
                      refine EV.istore (i := 7) (lv' := [some (.ref (A 11)), some (.int (zI (s))), some (.int (zI ((mm : Int)))), some (.int (zI (w))), some (.int (zI (((75 * (yrS F s n).1 + 74) % 65537)))), some (.int (zI (((yrS F s n).2.1 : Int)))), some (.int (zI (((yrS F s n).2.2.1 : Int)))), some (.int (zI ((n : Int)))), some (.int (zI ((if (yrS F s n).2.2.2.2 < ((n : Int) - (yrS F s n).2.2.2.1) then ((n : Int) - (yrS F s n).2.2.2.1) else (yrS F s n).2.2.2.2)))), some (.int (zI ((n : Int)))), some (.int (zI ((p : Int)))), some (.int (zI ((q : Int))))]) dX6_year_140 (by decide) rfl ?_
                      refine EV.iinc (i := 5) (lv' := [some (.ref (A 11)), some (.int (zI (s))), some (.int (zI ((mm : Int)))), some (.int (zI (w))), some (.int (zI (((75 * (yrS F s n).1 + 74) % 65537)))), some (.int (zI (((yrS F s n).2.1 : Int) + 1))), some (.int (zI (((yrS F s n).2.2.1 : Int)))), some (.int (zI ((n : Int)))), some (.int (zI ((if (yrS F s n).2.2.2.2 < ((n : Int) - (yrS F s n).2.2.2.1) then ((n : Int) - (yrS F s n).2.2.2.1) else (yrS F s n).2.2.2.2)))), some (.int (zI ((n : Int)))), some (.int (zI ((p : Int)))), some (.int (zI ((q : Int))))]) dX6_year_142 rfl (by decide) rfl ?_
                      refine EV.iload (i := 6) dX6_year_145 rfl ?_
                      refine EV.iconst dX6_year_147 ?_
                      refine EV.aload_n (i := 0) dX6_year_148 rfl rfl ?_
                      refine EV.getf fl_X6_19 dX6_year_149 g11 rfl ?_
                      refine EV.getf fl_X6_56 dX6_year_152 g14 rfl ?_
                      refine EV.iload (i := 10) dX6_year_155 rfl ?_
                      refine EV.iload (i := 9) dX6_year_157 rfl ?_
                      refine EV.callVr (M' := mX0_dayOn) (as := [.int (zI ((p : Int))), .int (zI ((n : Int)))]) (rest := [.int (zI (1)), .int (zI (((yrS F s n).2.2.1 : Int)))]) ml_X6_95 im_X0_dayOn se_X0_dayOn rfl co_X0_dayOn dX6_year_159 g15 (c_X0_dayOn (d + 2) hF hW (p : Int) (n : Int) (by omega) (by omega)) rfl rfl (Nat.le_of_ble_eq_true rfl) ?_
                      have hdb := hW.dnr (p : Int) (n : Int)
                      refine EV.top (y := zI ((((dy F p (n : Int)).toNat : Nat) : Int))) (by rw [dn_y hp hbp, Int.toNat_of_nonneg hd.1]) ?_
                      refine EV.ishlW dX6_year_162 ?_
                      refine EV.iorW dX6_year_163 ?_
                      refine EV.top (y := zI ((((yrS F s n).2.2.1 ||| 2 ^ (dy F p (n : Int)).toNat : Nat) : Int))) (zI_orj (by omega)) ?_
                      refine EV.istore (i := 6) (lv' := [some (.ref (A 11)), some (.int (zI (s))), some (.int (zI ((mm : Int)))), some (.int (zI (w))), some (.int (zI (((75 * (yrS F s n).1 + 74) % 65537)))), some (.int (zI ((((yrS F s n).2.1 : Int) + 1)))), some (.int (zI ((((yrS F s n).2.2.1 ||| 2 ^ (dy F p (n : Int)).toNat : Nat) : Int)))), some (.int (zI ((n : Int)))), some (.int (zI ((if (yrS F s n).2.2.2.2 < ((n : Int) - (yrS F s n).2.2.2.1) then ((n : Int) - (yrS F s n).2.2.2.1) else (yrS F s n).2.2.2.2)))), some (.int (zI ((n : Int)))), some (.int (zI ((p : Int)))), some (.int (zI ((q : Int))))]) dX6_year_164 (by decide) rfl ?_
                      have y1 : ((75 * (yrS F s n).1 + 74) % 65537) = (yrS F s (n + 1)).1 := by rw [hyy]
                      have y2 : ((yrS F s n).2.1 : Int) + 1 = ((yrS F s (n + 1)).2.1 : Int) := by rw [hyy]; rfl
                      have y3 : (((yrS F s n).2.2.1 ||| 2 ^ (dy F p (n : Int)).toNat : Nat) : Int) = ((yrS F s (n + 1)).2.2.1 : Int) := by rw [hyy]
                      have y4 : (n : Int) = (yrS F s (n + 1)).2.2.2.1 := by rw [hyy]
                      have y5 : (if (yrS F s n).2.2.2.2 < (n : Int) - (yrS F s n).2.2.2.1 then (n : Int) - (yrS F s n).2.2.2.1 else (yrS F s n).2.2.2.2) = (yrS F s (n + 1)).2.2.2.2 := by rw [hyy]; exact (if_neg (by omega)).symm
                      refine EV.iinc (i := 9) (lv' := [some (.ref (A 11)), some (.int (zI (s))), some (.int (zI ((mm : Int)))), some (.int (zI (w))), some (.int (zI (((75 * (yrS F s n).1 + 74) % 65537)))), some (.int (zI ((((yrS F s n).2.1 : Int) + 1)))), some (.int (zI ((((yrS F s n).2.2.1 ||| 2 ^ (dy F p (n : Int)).toNat : Nat) : Int)))), some (.int (zI ((n : Int)))), some (.int (zI ((if (yrS F s n).2.2.2.2 < ((n : Int) - (yrS F s n).2.2.2.1) then ((n : Int) - (yrS F s n).2.2.2.1) else (yrS F s n).2.2.2.2)))), some (.int (zI ((n : Int) + 1))), some (.int (zI ((p : Int)))), some (.int (zI ((q : Int))))]) dX6_year_166 rfl (by decide) rfl ?_
                      refine EV.goto (t := 51) dX6_year_169 (by decide) ?_
                      refine EV.drop 10 (lv' := [some (.ref (A 11)), some (.int (zI (s))), some (.int (zI ((mm : Int)))), some (.int (zI (w))), some (.int (zI (((75 * (yrS F s n).1 + 74) % 65537)))), some (.int (zI ((((yrS F s n).2.1 : Int) + 1)))), some (.int (zI ((((yrS F s n).2.2.1 ||| 2 ^ (dy F p (n : Int)).toNat : Nat) : Int)))), some (.int (zI ((n : Int)))), some (.int (zI ((if (yrS F s n).2.2.2.2 < ((n : Int) - (yrS F s n).2.2.2.1) then ((n : Int) - (yrS F s n).2.2.2.1) else (yrS F s n).2.2.2.2)))), some (.int (zI (((n : Int) + 1)))), none, some (.int (zI ((q : Int))))]) rfl ?_
                      refine EV.drop 11 (lv' := [some (.ref (A 11)), some (.int (zI (s))), some (.int (zI ((mm : Int)))), some (.int (zI (w))), some (.int (zI (((75 * (yrS F s n).1 + 74) % 65537)))), some (.int (zI ((((yrS F s n).2.1 : Int) + 1)))), some (.int (zI ((((yrS F s n).2.2.1 ||| 2 ^ (dy F p (n : Int)).toNat : Nat) : Int)))), some (.int (zI ((n : Int)))), some (.int (zI ((if (yrS F s n).2.2.2.2 < ((n : Int) - (yrS F s n).2.2.2.1) then ((n : Int) - (yrS F s n).2.2.2.1) else (yrS F s n).2.2.2.2)))), some (.int (zI (((n : Int) + 1)))), none, none]) rfl ?_
                      exact ih51 (n + 1) _ _ _ _ _ _ (by omega) (by omega) (y1) (y2) (y3) (y4) (y5) (rfl)
                    · skip
                      refine EV.iconst dX6_year_122 ?_
                      refine EV.goto (t := 136) dX6_year_123 (by decide) ?_
                      refine EV.istore (i := 8) (lv' := [some (.ref (A 11)), some (.int (zI (s))), some (.int (zI ((mm : Int)))), some (.int (zI (w))), some (.int (zI (((75 * (yrS F s n).1 + 74) % 65537)))), some (.int (zI (((yrS F s n).2.1 : Int)))), some (.int (zI (((yrS F s n).2.2.1 : Int)))), some (.int (zI ((yrS F s n).2.2.2.1))), some (.int (zI (0))), some (.int (zI ((n : Int)))), some (.int (zI ((p : Int)))), some (.int (zI ((q : Int))))]) dX6_year_136 (by decide) rfl ?_
                      refine EV.iload (i := 9) dX6_year_138 rfl ?_
                      refine EV.istore (i := 7) (lv' := [some (.ref (A 11)), some (.int (zI (s))), some (.int (zI ((mm : Int)))), some (.int (zI (w))), some (.int (zI (((75 * (yrS F s n).1 + 74) % 65537)))), some (.int (zI (((yrS F s n).2.1 : Int)))), some (.int (zI (((yrS F s n).2.2.1 : Int)))), some (.int (zI ((n : Int)))), some (.int (zI (0))), some (.int (zI ((n : Int)))), some (.int (zI ((p : Int)))), some (.int (zI ((q : Int))))]) dX6_year_140 (by decide) rfl ?_
                      refine EV.iinc (i := 5) (lv' := [some (.ref (A 11)), some (.int (zI (s))), some (.int (zI ((mm : Int)))), some (.int (zI (w))), some (.int (zI (((75 * (yrS F s n).1 + 74) % 65537)))), some (.int (zI (((yrS F s n).2.1 : Int) + 1))), some (.int (zI (((yrS F s n).2.2.1 : Int)))), some (.int (zI ((n : Int)))), some (.int (zI (0))), some (.int (zI ((n : Int)))), some (.int (zI ((p : Int)))), some (.int (zI ((q : Int))))]) dX6_year_142 rfl (by decide) rfl ?_
                      refine EV.iload (i := 6) dX6_year_145 rfl ?_
                      refine EV.iconst dX6_year_147 ?_
                      refine EV.aload_n (i := 0) dX6_year_148 rfl rfl ?_
                      refine EV.getf fl_X6_19 dX6_year_149 g11 rfl ?_
                      refine EV.getf fl_X6_56 dX6_year_152 g14 rfl ?_
                      refine EV.iload (i := 10) dX6_year_155 rfl ?_
                      refine EV.iload (i := 9) dX6_year_157 rfl ?_
                      refine EV.callVr (M' := mX0_dayOn) (as := [.int (zI ((p : Int))), .int (zI ((n : Int)))]) (rest := [.int (zI (1)), .int (zI (((yrS F s n).2.2.1 : Int)))]) ml_X6_95 im_X0_dayOn se_X0_dayOn rfl co_X0_dayOn dX6_year_159 g15 (c_X0_dayOn (d + 2) hF hW (p : Int) (n : Int) (by omega) (by omega)) rfl rfl (Nat.le_of_ble_eq_true rfl) ?_
                      have hdb := hW.dnr (p : Int) (n : Int)
                      refine EV.top (y := zI ((((dy F p (n : Int)).toNat : Nat) : Int))) (by rw [dn_y hp hbp, Int.toNat_of_nonneg hd.1]) ?_
                      refine EV.ishlW dX6_year_162 ?_
                      refine EV.iorW dX6_year_163 ?_
                      refine EV.top (y := zI ((((yrS F s n).2.2.1 ||| 2 ^ (dy F p (n : Int)).toNat : Nat) : Int))) (zI_orj (by omega)) ?_
                      refine EV.istore (i := 6) (lv' := [some (.ref (A 11)), some (.int (zI (s))), some (.int (zI ((mm : Int)))), some (.int (zI (w))), some (.int (zI (((75 * (yrS F s n).1 + 74) % 65537)))), some (.int (zI ((((yrS F s n).2.1 : Int) + 1)))), some (.int (zI ((((yrS F s n).2.2.1 ||| 2 ^ (dy F p (n : Int)).toNat : Nat) : Int)))), some (.int (zI ((n : Int)))), some (.int (zI (0))), some (.int (zI ((n : Int)))), some (.int (zI ((p : Int)))), some (.int (zI ((q : Int))))]) dX6_year_164 (by decide) rfl ?_
                      have y1 : ((75 * (yrS F s n).1 + 74) % 65537) = (yrS F s (n + 1)).1 := by rw [hyy]
                      have y2 : ((yrS F s n).2.1 : Int) + 1 = ((yrS F s (n + 1)).2.1 : Int) := by rw [hyy]; rfl
                      have y3 : (((yrS F s n).2.2.1 ||| 2 ^ (dy F p (n : Int)).toNat : Nat) : Int) = ((yrS F s (n + 1)).2.2.1 : Int) := by rw [hyy]
                      have y4 : (n : Int) = (yrS F s (n + 1)).2.2.2.1 := by rw [hyy]
                      have y5 : 0 = (yrS F s (n + 1)).2.2.2.2 := by rw [hyy]; exact (if_pos (by omega)).symm
                      refine EV.iinc (i := 9) (lv' := [some (.ref (A 11)), some (.int (zI (s))), some (.int (zI ((mm : Int)))), some (.int (zI (w))), some (.int (zI (((75 * (yrS F s n).1 + 74) % 65537)))), some (.int (zI ((((yrS F s n).2.1 : Int) + 1)))), some (.int (zI ((((yrS F s n).2.2.1 ||| 2 ^ (dy F p (n : Int)).toNat : Nat) : Int)))), some (.int (zI ((n : Int)))), some (.int (zI (0))), some (.int (zI ((n : Int) + 1))), some (.int (zI ((p : Int)))), some (.int (zI ((q : Int))))]) dX6_year_166 rfl (by decide) rfl ?_
                      refine EV.goto (t := 51) dX6_year_169 (by decide) ?_
                      refine EV.drop 10 (lv' := [some (.ref (A 11)), some (.int (zI (s))), some (.int (zI ((mm : Int)))), some (.int (zI (w))), some (.int (zI (((75 * (yrS F s n).1 + 74) % 65537)))), some (.int (zI ((((yrS F s n).2.1 : Int) + 1)))), some (.int (zI ((((yrS F s n).2.2.1 ||| 2 ^ (dy F p (n : Int)).toNat : Nat) : Int)))), some (.int (zI ((n : Int)))), some (.int (zI (0))), some (.int (zI (((n : Int) + 1)))), none, some (.int (zI ((q : Int))))]) rfl ?_
                      refine EV.drop 11 (lv' := [some (.ref (A 11)), some (.int (zI (s))), some (.int (zI ((mm : Int)))), some (.int (zI (w))), some (.int (zI (((75 * (yrS F s n).1 + 74) % 65537)))), some (.int (zI ((((yrS F s n).2.1 : Int) + 1)))), some (.int (zI ((((yrS F s n).2.2.1 ||| 2 ^ (dy F p (n : Int)).toNat : Nat) : Int)))), some (.int (zI ((n : Int)))), some (.int (zI (0))), some (.int (zI (((n : Int) + 1)))), none, none]) rfl ?_
                      exact ih51 (n + 1) _ _ _ _ _ _ (by omega) (by omega) (y1) (y2) (y3) (y4) (y5) (rfl)
          exact L51 _ 0 _ _ _ _ _ _ (by omega) (Nat.lt_succ_self _) (rfl) (rfl) (rfl) (rfl) (rfl) (rfl)
        · skip
          have c27r := of_nrg c27
          refine EV.bipush dX6_year_30 (by decide) ?_
          refine EV.iret rfl dX6_year_32 ?_
          exact rQ (by rw [yearR, if_neg (fun hh => by simp only [Bool.and_eq_true, rg, decide_eq_true_eq] at hh; omega)])
set_option maxHeartbeats 4000000 in
set_option maxRecDepth 20000 in
theorem c_X6_toldOfPerson (d : Nat) (hA : inA A N) (hK : WFK K) (hW : WF F) (hP : WFP P) (hT : WFT T) (z : Int) (hz : inR z) : CT G l mX6_toldOfPerson (d + 4) 0 0 [.ref (A 11), .int (zI (z))] (HP G h A N (K, (F, P, T, V), O, im, IL) X) (RQ (HP G h A N (K, (F, P, T, V), O, im, IL) X) (toldP F z)) := by
  refine CT.of (by decide) (Nat.le_of_ble_eq_true rfl) (List.forall_mem_cons.mpr ⟨rfl, List.forall_mem_cons.mpr ⟨rfl, fun _ h => absurd h List.not_mem_nil⟩⟩) ?_
  refine EV.lvs (lv' := [some (.ref (A 11)), some (.int (zI (z))), none, none, none]) rfl ?_
  have g11 : (HP G h A N (K, (F, P, T, V), O, im, IL) X) (A 11) = some (obj 6 [.ref (A 12), .ref (A 14), .ref (A 26), .ref (A 27)]) := hGet hA _ _ 11 (by decide)
  have g14 : (HP G h A N (K, (F, P, T, V), O, im, IL) X) (A 14) = some (obj 1 [.ref (A 15), .ref (A 20), .ref (A 23)]) := hGet hA _ _ 14 (by decide)
  have g15 : (HP G h A N (K, (F, P, T, V), O, im, IL) X) (A 15) = some (obj 0 [.int (zI ((F.1 : Int))), .ref (A 16), .ref (A 17), .ref (A 18), .ref (A 19)]) := hGet hA _ _ 15 (by decide)
  have hK6 := hK.1
  have hP6 := hP.1
  have hT6 := hT.1
  have hth := hW.1
  have hF : FolkAt G (HP G h A N (K, (F, P, T, V), O, im, IL) X) F (A 15) (A 16) (A 17) (A 18) (A 19) V := hFolk hA
  refine EV.aload_n (i := 0) dX6_toldOfPerson_0 rfl rfl ?_
  refine EV.getf fl_X6_19 dX6_toldOfPerson_1 g11 rfl ?_
  refine EV.getf fl_X6_56 dX6_toldOfPerson_4 g14 rfl ?_
  refine EV.astore_n (i := 2) (lv' := [some (.ref (A 11)), some (.int (zI (z))), some (.ref (A 15)), none, none]) dX6_toldOfPerson_7 rfl (by decide) rfl ?_
  refine EV.aload_n (i := 0) dX6_toldOfPerson_8 rfl rfl ?_
  refine EV.iload_n (i := 1) dX6_toldOfPerson_9 rfl rfl ?_
  refine EV.bipush dX6_toldOfPerson_10 (by decide) ?_
  refine EV.isub dX6_toldOfPerson_12 ?_
  refine EV.top (y := zI (wr (z - 10))) (zI_wr _) ?_
  refine EV.callVr (M' := mX6_isThere) (as := [.int (zI (wr (z - 10)))]) (rest := []) ml_X6_69 im_X6_isThere se_X6_isThere rfl co_X6_isThere dX6_toldOfPerson_13 g11 (c_X6_isThere (d + 0) hA hK hW hP hT (wr (z - 10)) (wr_in hz (by decide))) rfl rfl (Nat.le_of_ble_eq_true rfl) ?_
  refine EV.ifeqB (t := 28) dX6_toldOfPerson_16 (by decide) (fun c16 => ?_) (fun c16 => ?_)
  · skip
    refine EV.aload_n (i := 0) dX6_toldOfPerson_28 rfl rfl ?_
    refine EV.iload_n (i := 1) dX6_toldOfPerson_29 rfl rfl ?_
    refine EV.bipush dX6_toldOfPerson_30 (by decide) ?_
    refine EV.isub dX6_toldOfPerson_32 ?_
    refine EV.top (y := zI (wr (z - 20))) (zI_wr _) ?_
    refine EV.callVr (M' := mX6_isThere) (as := [.int (zI (wr (z - 20)))]) (rest := []) ml_X6_69 im_X6_isThere se_X6_isThere rfl co_X6_isThere dX6_toldOfPerson_33 g11 (c_X6_isThere (d + 0) hA hK hW hP hT (wr (z - 20)) (wr_in hz (by decide))) rfl rfl (Nat.le_of_ble_eq_true rfl) ?_
    refine EV.ifeqB (t := 48) dX6_toldOfPerson_36 (by decide) (fun c36 => ?_) (fun c36 => ?_)
    · skip
      obtain ⟨td1, td2, td3⟩ := tdb z 100 (by decide)
      have td4 := tmb z 100 (by decide)
      refine EV.iload_n (i := 1) dX6_toldOfPerson_48 rfl rfl ?_
      refine EV.bipush dX6_toldOfPerson_49 (by decide) ?_
      refine EV.idiv dX6_toldOfPerson_51 (by omega) ?_
      refine EV.iconst dX6_toldOfPerson_52 ?_
      refine EV.isub dX6_toldOfPerson_53 ?_
      refine EV.istore_n (i := 3) (lv' := [some (.ref (A 11)), some (.int (zI (z))), some (.ref (A 15)), some (.int (zI (((Int.tdiv z 100) - 1)))), none]) dX6_toldOfPerson_54 rfl (by decide) rfl ?_
      refine EV.iload_n (i := 1) dX6_toldOfPerson_55 rfl rfl ?_
      refine EV.bipush dX6_toldOfPerson_56 (by decide) ?_
      refine EV.irem dX6_toldOfPerson_58 (by omega) ?_
      refine EV.istore (i := 4) (lv' := [some (.ref (A 11)), some (.int (zI (z))), some (.ref (A 15)), some (.int (zI (((Int.tdiv z 100) - 1)))), some (.int (zI ((Int.tmod z 100))))]) dX6_toldOfPerson_59 (by decide) rfl ?_
      refine EV.aload_n (i := 0) dX6_toldOfPerson_61 rfl rfl ?_
      refine EV.iload_n (i := 3) dX6_toldOfPerson_62 rfl rfl ?_
      refine EV.callVr (M' := mX6_isThere) (as := [.int (zI (((Int.tdiv z 100) - 1)))]) (rest := []) ml_X6_69 im_X6_isThere se_X6_isThere rfl co_X6_isThere dX6_toldOfPerson_63 g11 (c_X6_isThere (d + 0) hA hK hW hP hT ((Int.tdiv z 100) - 1) (by omega)) rfl rfl (Nat.le_of_ble_eq_true rfl) ?_
      refine EV.ifeqB (t := 82) dX6_toldOfPerson_66 (by decide) (fun c66 => ?_) (fun c66 => ?_)
      · skip
        refine EV.bipush dX6_toldOfPerson_82 (by decide) ?_
        refine EV.iret rfl dX6_toldOfPerson_84 ?_
        exact rQ (tp_4 c16 c36 hz.1 (fun h0 h1 => by rw [show z / 100 - 1 = z.tdiv 100 - 1 by omega, c66] at h1; exact absurd h1 (by decide))).symm
      · skip
        obtain ⟨p, hp, he, hbp⟩ := thI_p c66
        refine EV.lvs (lv' := [some (.ref (A 11)), some (.int (zI (z))), some (.ref (A 15)), some (.int (zI ((p : Int)))), some (.int (zI ((Int.tmod z 100))))]) (by rw [he]) ?_
        obtain ⟨hwb, hws, hwo⟩ := hW.2 p hp hbp
        have hz0 : 0 ≤ z := by omega
        have e1 : z / 100 - 1 = (p : Int) := by omega
        refine EV.iload (i := 4) dX6_toldOfPerson_69 rfl ?_
        refine EV.aload_n (i := 2) dX6_toldOfPerson_71 rfl rfl ?_
        refine EV.iload_n (i := 3) dX6_toldOfPerson_72 rfl rfl ?_
        refine EV.callVr (M' := mX0_sizeOf) (as := [.int (zI ((p : Int)))]) (rest := [.int (zI ((Int.tmod z 100)))]) ml_X6_216 im_X0_sizeOf se_X0_sizeOf rfl co_X0_sizeOf dX6_toldOfPerson_73 g15 (c_X0_sizeOf (d + 1) hF hW p (by omega)) rfl rfl (Nat.le_of_ble_eq_true rfl) ?_
        refine EV.callSr (M' := mX6_isOneOf) (as := [.int (zI ((Int.tmod z 100))), .int (zI (F.2.2.1 p))]) (rest := []) ml_X6_42 sm_X6_isOneOf co_X6_isOneOf dX6_toldOfPerson_76 (c_X6_isOneOf (d + 2) (Int.tmod z 100) (F.2.2.1 p) (by omega) (by omega)) rfl rfl (Nat.le_of_ble_eq_true rfl) ?_
        refine EV.ifneB (t := 85) dX6_toldOfPerson_79 (by decide) (fun c79 => ?_) (fun c79 => ?_)
        · skip
          have c79r := of_rg c79
          obtain ⟨k, hk⟩ : ∃ k : Nat, z.tmod 100 = (k : Int) := ⟨(z.tmod 100).toNat, by omega⟩
          refine EV.lvs (lv' := [some (.ref (A 11)), some (.int (zI (z))), some (.ref (A 15)), some (.int (zI ((p : Int)))), some (.int (zI ((k : Int))))]) (by rw [hk]) ?_
          refine EV.aload_n (i := 2) dX6_toldOfPerson_85 rfl rfl ?_
          refine EV.iload_n (i := 3) dX6_toldOfPerson_86 rfl rfl ?_
          refine EV.iload (i := 4) dX6_toldOfPerson_87 rfl ?_
          refine EV.callVr (M' := mX0_dayAt) (as := [.int (zI ((p : Int))), .int (zI ((k : Int)))]) (rest := []) ml_X6_219 im_X0_dayAt se_X0_dayAt rfl co_X0_dayAt dX6_toldOfPerson_89 g15 (c_X0_dayAt (d + 1) hF hW p k (by omega)) rfl rfl (Nat.le_of_ble_eq_true rfl) ?_
          refine EV.iret rfl dX6_toldOfPerson_92 ?_
          exact rQ (tp_3 hp hbp (by omega) (by omega) (by omega)).symm
        · skip
          have c79r := of_nrg c79
          refine EV.bipush dX6_toldOfPerson_82 (by decide) ?_
          refine EV.iret rfl dX6_toldOfPerson_84 ?_
          exact rQ (tp_4 c16 c36 hz.1 (fun h0 h1 => by rw [e1, Int.toNat_natCast]; omega)).symm
    · skip
      obtain ⟨p, hp, he, hbp⟩ := thI_p c36
      have hzp := wr_p hz (by decide) hp he
      refine EV.aload_n (i := 2) dX6_toldOfPerson_39 rfl rfl ?_
      refine EV.iload_n (i := 1) dX6_toldOfPerson_40 rfl rfl ?_
      refine EV.bipush dX6_toldOfPerson_41 (by decide) ?_
      refine EV.isub dX6_toldOfPerson_43 ?_
      refine EV.top (y := zI ((p : Int))) (by rw [show z - 20 = (p : Int) by omega]) ?_
      refine EV.callVr (M' := mX0_sizeOf) (as := [.int (zI ((p : Int)))]) (rest := []) ml_X6_216 im_X0_sizeOf se_X0_sizeOf rfl co_X0_sizeOf dX6_toldOfPerson_44 g15 (c_X0_sizeOf (d + 1) hF hW p hp) rfl rfl (Nat.le_of_ble_eq_true rfl) ?_
      refine EV.iret rfl dX6_toldOfPerson_47 ?_
      exact rQ (tp_2 hp hbp hzp).symm
  · skip
    obtain ⟨p, hp, he, hbp⟩ := thI_p c16
    have hzp := wr_p hz (by decide) hp he
    refine EV.aload_n (i := 2) dX6_toldOfPerson_19 rfl rfl ?_
    refine EV.iload_n (i := 1) dX6_toldOfPerson_20 rfl rfl ?_
    refine EV.bipush dX6_toldOfPerson_21 (by decide) ?_
    refine EV.isub dX6_toldOfPerson_23 ?_
    refine EV.top (y := zI ((p : Int))) (by rw [show z - 10 = (p : Int) by omega]) ?_
    refine EV.callVr (M' := mX0_birthOf) (as := [.int (zI ((p : Int)))]) (rest := []) ml_X6_213 im_X0_birthOf se_X0_birthOf rfl co_X0_birthOf dX6_toldOfPerson_24 g15 (c_X0_birthOf (d + 1) hF hW p hp) rfl rfl (Nat.le_of_ble_eq_true rfl) ?_
    refine EV.iret rfl dX6_toldOfPerson_27 ?_
    exact rQ (tp_1 hp hbp hzp).symm
set_option maxHeartbeats 4000000 in
set_option maxRecDepth 20000 in
theorem c_X6_toldOfWork (d : Nat) (hA : inA A N) (hK : WFK K) (hW : WF F) (hP : WFP P) (hT : WFT T) (z : Int) (hz : 1000 ≤ z ∧ z ≤ 2147483647) : CT G l mX6_toldOfWork (d + 3) 0 0 [.ref (A 11), .int (zI (z))] (HP G h A N (K, (F, P, T, V), O, im, IL) X) (RQ (HP G h A N (K, (F, P, T, V), O, im, IL) X) (toldW P z)) := by
  refine CT.of (by decide) (Nat.le_of_ble_eq_true rfl) (List.forall_mem_cons.mpr ⟨rfl, List.forall_mem_cons.mpr ⟨rfl, fun _ h => absurd h List.not_mem_nil⟩⟩) ?_
  refine EV.lvs (lv' := [some (.ref (A 11)), some (.int (zI (z))), none, none]) rfl ?_
  have g11 : (HP G h A N (K, (F, P, T, V), O, im, IL) X) (A 11) = some (obj 6 [.ref (A 12), .ref (A 14), .ref (A 26), .ref (A 27)]) := hGet hA _ _ 11 (by decide)
  have g14 : (HP G h A N (K, (F, P, T, V), O, im, IL) X) (A 14) = some (obj 1 [.ref (A 15), .ref (A 20), .ref (A 23)]) := hGet hA _ _ 14 (by decide)
  have g20 : (HP G h A N (K, (F, P, T, V), O, im, IL) X) (A 20) = some (obj 4 [.int (zI ((P.1 : Int))), .ref (A 21), .ref (A 22)]) := hGet hA _ _ 20 (by decide)
  have hK6 := hK.1
  have hP6 := hP.1
  have hT6 := hT.1
  have hth := hW.1
  have hF : FolkAt G (HP G h A N (K, (F, P, T, V), O, im, IL) X) F (A 15) (A 16) (A 17) (A 18) (A 19) V := hFolk hA
  obtain ⟨td1, td2, td3⟩ := tdb z 1000 (by decide)
  have hd := td1 (by omega)
  have hm := td3 (by omega)
  refine EV.iload_n (i := 1) dX6_toldOfWork_0 rfl rfl ?_
  refine EV.sipush dX6_toldOfWork_1 (by decide) ?_
  refine EV.idiv dX6_toldOfWork_4 (by omega) ?_
  refine EV.iconst dX6_toldOfWork_5 ?_
  refine EV.isub dX6_toldOfWork_6 ?_
  refine EV.istore_n (i := 2) (lv' := [some (.ref (A 11)), some (.int (zI (z))), some (.int (zI (((Int.tdiv z 1000) - 1)))), none]) dX6_toldOfWork_7 rfl (by decide) rfl ?_
  refine EV.iload_n (i := 1) dX6_toldOfWork_8 rfl rfl ?_
  refine EV.sipush dX6_toldOfWork_9 (by decide) ?_
  refine EV.irem dX6_toldOfWork_12 (by omega) ?_
  refine EV.istore_n (i := 3) (lv' := [some (.ref (A 11)), some (.int (zI (z))), some (.int (zI (((Int.tdiv z 1000) - 1)))), some (.int (zI ((Int.tmod z 1000))))]) dX6_toldOfWork_13 rfl (by decide) rfl ?_
  refine EV.iload_n (i := 2) dX6_toldOfWork_14 rfl rfl ?_
  refine EV.aload_n (i := 0) dX6_toldOfWork_15 rfl rfl ?_
  refine EV.getf fl_X6_19 dX6_toldOfWork_16 g11 rfl ?_
  refine EV.getf fl_X6_81 dX6_toldOfWork_19 g14 rfl ?_
  refine EV.getf fl_X6_91 dX6_toldOfWork_22 g20 rfl ?_
  refine EV.callSr (M' := mX6_isOneOf) (as := [.int (zI (((Int.tdiv z 1000) - 1))), .int (zI ((P.1 : Int)))]) (rest := []) ml_X6_42 sm_X6_isOneOf co_X6_isOneOf dX6_toldOfWork_25 (c_X6_isOneOf (d + 1) ((Int.tdiv z 1000) - 1) (P.1 : Int) (by omega) (by omega)) rfl rfl (Nat.le_of_ble_eq_true rfl) ?_
  refine EV.ifeqB (t := 39) dX6_toldOfWork_28 (by decide) (fun c28 => ?_) (fun c28 => ?_)
  · skip
    have c28r := of_nrg c28
    refine EV.bipush dX6_toldOfWork_39 (by decide) ?_
    refine EV.iret rfl dX6_toldOfWork_41 ?_
    exact rQ (by rw [toldW, if_neg (fun hh => by simp only [Bool.and_eq_true, rg, decide_eq_true_eq] at hh; omega)])
  · skip
    have c28r := of_rg c28
    refine EV.iload_n (i := 3) dX6_toldOfWork_31 rfl rfl ?_
    refine EV.iconst dX6_toldOfWork_32 ?_
    refine EV.callSr (M' := mX6_isOneOf) (as := [.int (zI ((Int.tmod z 1000))), .int (zI (2))]) (rest := []) ml_X6_42 sm_X6_isOneOf co_X6_isOneOf dX6_toldOfWork_33 (c_X6_isOneOfL (d + 1) (Int.tmod z 1000) 2 1 rfl (by omega) (by omega)) rfl rfl (Nat.le_of_ble_eq_true rfl) ?_
    refine EV.ifneB (t := 42) dX6_toldOfWork_36 (by decide) (fun c36 => ?_) (fun c36 => ?_)
    · skip
      have c36r := of_rg c36
      obtain ⟨v, hv⟩ : ∃ v : Nat, z.tdiv 1000 - 1 = (v : Int) := ⟨(z.tdiv 1000 - 1).toNat, by omega⟩
      refine EV.lvs (lv' := [some (.ref (A 11)), some (.int (zI (z))), some (.int (zI ((v : Int)))), some (.int (zI ((Int.tmod z 1000))))]) (by rw [hv]) ?_
      have e1 : z / 1000 - 1 = (v : Int) := by omega
      have hv6 : v < 6 := by omega
      refine EV.iload_n (i := 3) dX6_toldOfWork_42 rfl rfl ?_
      refine EV.ifne (t := 60) dX6_toldOfWork_43 (by decide) (by omega) (fun c43 => ?_) (fun c43 => ?_)
      · skip
        refine EV.aload_n (i := 0) dX6_toldOfWork_60 rfl rfl ?_
        refine EV.getf fl_X6_19 dX6_toldOfWork_61 g11 rfl ?_
        refine EV.getf fl_X6_81 dX6_toldOfWork_64 g14 rfl ?_
        refine EV.iload_n (i := 2) dX6_toldOfWork_67 rfl rfl ?_
        refine EV.callVr (M' := mX4_peopleOf) (as := [.int (zI ((v : Int)))]) (rest := []) ml_X6_152 im_X4_peopleOf se_X4_peopleOf rfl co_X4_peopleOf dX6_toldOfWork_68 g20 (c_X4_peopleOf (d + 0) hA v (by omega)) rfl rfl (Nat.le_of_ble_eq_true rfl) ?_
        refine EV.iret rfl dX6_toldOfWork_71 ?_
        exact rQ (by rw [toldW, if_pos (by rw [e1, rg_t (by omega), rg_t (by omega)]; rfl), if_neg (by omega), e1, Int.toNat_natCast])
      · skip
        refine EV.aload_n (i := 0) dX6_toldOfWork_46 rfl rfl ?_
        refine EV.getf fl_X6_19 dX6_toldOfWork_47 g11 rfl ?_
        refine EV.getf fl_X6_81 dX6_toldOfWork_50 g14 rfl ?_
        refine EV.iload_n (i := 2) dX6_toldOfWork_53 rfl rfl ?_
        refine EV.callVr (M' := mX4_dayOf) (as := [.int (zI ((v : Int)))]) (rest := []) ml_X6_155 im_X4_dayOf se_X4_dayOf rfl co_X4_dayOf dX6_toldOfWork_54 g20 (c_X4_dayOf (d + 0) hA v (by omega)) rfl rfl (Nat.le_of_ble_eq_true rfl) ?_
        refine EV.goto (t := 71) dX6_toldOfWork_57 (by decide) ?_
        refine EV.iret rfl dX6_toldOfWork_71 ?_
        exact rQ (by rw [toldW, if_pos (by rw [e1, rg_t (by omega), rg_t (by omega)]; rfl), if_pos (by omega), e1, Int.toNat_natCast])
    · skip
      have c36r := of_nrg c36
      refine EV.bipush dX6_toldOfWork_39 (by decide) ?_
      refine EV.iret rfl dX6_toldOfWork_41 ?_
      exact rQ (by rw [toldW, if_neg (fun hh => by simp only [Bool.and_eq_true, rg, decide_eq_true_eq] at hh; omega)])
set_option maxHeartbeats 4000000 in
set_option maxRecDepth 20000 in
theorem c_X6_told (d : Nat) (hA : inA A N) (hK : WFK K) (hW : WF F) (hP : WFP P) (hT : WFT T) (z : Int) (hz : inR z) : CT G l mX6_told (d + 5) 0 0 [.ref (A 11), .int (zI (z))] (HP G h A N (K, (F, P, T, V), O, im, IL) X) (RQ (HP G h A N (K, (F, P, T, V), O, im, IL) X) (toldR K F P T z)) := by
  refine CT.of (by decide) (Nat.le_of_ble_eq_true rfl) (List.forall_mem_cons.mpr ⟨rfl, List.forall_mem_cons.mpr ⟨rfl, fun _ h => absurd h List.not_mem_nil⟩⟩) ?_
  refine EV.lvs (lv' := [some (.ref (A 11)), some (.int (zI (z)))]) rfl ?_
  have g11 : (HP G h A N (K, (F, P, T, V), O, im, IL) X) (A 11) = some (obj 6 [.ref (A 12), .ref (A 14), .ref (A 26), .ref (A 27)]) := hGet hA _ _ 11 (by decide)
  have g12 : (HP G h A N (K, (F, P, T, V), O, im, IL) X) (A 12) = some (obj 3 [.ref (A 13), .int (zI ((K.1 : Int)))]) := hGet hA _ _ 12 (by decide)
  have g14 : (HP G h A N (K, (F, P, T, V), O, im, IL) X) (A 14) = some (obj 1 [.ref (A 15), .ref (A 20), .ref (A 23)]) := hGet hA _ _ 14 (by decide)
  have g15 : (HP G h A N (K, (F, P, T, V), O, im, IL) X) (A 15) = some (obj 0 [.int (zI ((F.1 : Int))), .ref (A 16), .ref (A 17), .ref (A 18), .ref (A 19)]) := hGet hA _ _ 15 (by decide)
  have g20 : (HP G h A N (K, (F, P, T, V), O, im, IL) X) (A 20) = some (obj 4 [.int (zI ((P.1 : Int))), .ref (A 21), .ref (A 22)]) := hGet hA _ _ 20 (by decide)
  have g23 : (HP G h A N (K, (F, P, T, V), O, im, IL) X) (A 23) = some (obj 5 [.int (zI ((T.1 : Int))), .ref (A 24), .ref (A 25)]) := hGet hA _ _ 23 (by decide)
  have hK6 := hK.1
  have hP6 := hP.1
  have hT6 := hT.1
  have hth := hW.1
  have hF : FolkAt G (HP G h A N (K, (F, P, T, V), O, im, IL) X) F (A 15) (A 16) (A 17) (A 18) (A 19) V := hFolk hA
  refine EV.iload_n (i := 1) dX6_told_0 rfl rfl ?_
  rcases (show z = 0 ∨ z = 1 ∨ z = 2 ∨ z = 3 ∨ (z < 0 ∨ 3 < z) by omega) with s1 | s1 | s1 | s1 | s1
  · skip
    refine EV.tabIn (x := z) (off := 31) (t := 32) dX6_told_1 (by omega) (by omega) (by rw [s1]; rfl) (by decide) ?_
    refine EV.aload_n (i := 0) dX6_told_32 rfl rfl ?_
    refine EV.getf fl_X6_10 dX6_told_33 g11 rfl ?_
    refine EV.getf fl_X6_38 dX6_told_36 g12 rfl ?_
    refine EV.iret rfl dX6_told_39 ?_
    exact rQ (by rw [toldR, if_pos s1])
  · skip
    refine EV.tabIn (x := z) (off := 39) (t := 40) dX6_told_1 (by omega) (by omega) (by rw [s1]; rfl) (by decide) ?_
    refine EV.aload_n (i := 0) dX6_told_40 rfl rfl ?_
    refine EV.getf fl_X6_19 dX6_told_41 g11 rfl ?_
    refine EV.getf fl_X6_56 dX6_told_44 g14 rfl ?_
    refine EV.getf fl_X6_72 dX6_told_47 g15 rfl ?_
    refine EV.iret rfl dX6_told_50 ?_
    exact rQ (by rw [toldR, if_neg (by omega), if_pos s1])
  · skip
    refine EV.tabIn (x := z) (off := 50) (t := 51) dX6_told_1 (by omega) (by omega) (by rw [s1]; rfl) (by decide) ?_
    refine EV.aload_n (i := 0) dX6_told_51 rfl rfl ?_
    refine EV.getf fl_X6_19 dX6_told_52 g11 rfl ?_
    refine EV.getf fl_X6_81 dX6_told_55 g14 rfl ?_
    refine EV.getf fl_X6_91 dX6_told_58 g20 rfl ?_
    refine EV.iret rfl dX6_told_61 ?_
    exact rQ (by rw [toldR, if_neg (by omega), if_neg (by omega), if_pos s1])
  · skip
    refine EV.tabIn (x := z) (off := 61) (t := 62) dX6_told_1 (by omega) (by omega) (by rw [s1]; rfl) (by decide) ?_
    refine EV.aload_n (i := 0) dX6_told_62 rfl rfl ?_
    refine EV.getf fl_X6_19 dX6_told_63 g11 rfl ?_
    refine EV.getf fl_X6_179 dX6_told_66 g14 rfl ?_
    refine EV.getf fl_X6_187 dX6_told_69 g23 rfl ?_
    refine EV.iret rfl dX6_told_72 ?_
    exact rQ (by rw [toldR, if_neg (by omega), if_neg (by omega), if_neg (by omega), if_pos s1])
  · skip
    refine EV.tabOut (x := z) (t := 73) dX6_told_1 (by omega) s1 (by decide) ?_
    refine EV.iload_n (i := 1) dX6_told_73 rfl rfl ?_
    refine EV.sipush dX6_told_74 (by decide) ?_
    refine EV.icmp_ge (t := 88) dX6_told_77 (by decide) (by omega) (fun c77 => ?_) (fun c77 => ?_)
    · skip
      refine EV.aload_n (i := 0) dX6_told_88 rfl rfl ?_
      refine EV.iload_n (i := 1) dX6_told_89 rfl rfl ?_
      refine EV.callVr (M' := mX6_toldOfWork) (as := [.int (zI (z))]) (rest := []) ml_X6_210 im_X6_toldOfWork se_X6_toldOfWork rfl co_X6_toldOfWork dX6_told_90 g11 (c_X6_toldOfWork (d + 1) hA hK hW hP hT z (by omega)) rfl rfl (Nat.le_of_ble_eq_true rfl) ?_
      refine EV.iret rfl dX6_told_93 ?_
      exact rQ (by rw [toldR, if_neg (by omega), if_neg (by omega), if_neg (by omega), if_neg (by omega), if_neg (by omega)])
    · skip
      refine EV.aload_n (i := 0) dX6_told_80 rfl rfl ?_
      refine EV.iload_n (i := 1) dX6_told_81 rfl rfl ?_
      refine EV.callVr (M' := mX6_toldOfPerson) (as := [.int (zI (z))]) (rest := []) ml_X6_207 im_X6_toldOfPerson se_X6_toldOfPerson rfl co_X6_toldOfPerson dX6_told_82 g11 (c_X6_toldOfPerson (d + 0) hA hK hW hP hT z (by omega)) rfl rfl (Nat.le_of_ble_eq_true rfl) ?_
      refine EV.goto (t := 93) dX6_told_85 (by decide) ?_
      refine EV.iret rfl dX6_told_93 ?_
      exact rQ (by rw [toldR, if_neg (by omega), if_neg (by omega), if_neg (by omega), if_neg (by omega), if_pos (by omega)])
end
