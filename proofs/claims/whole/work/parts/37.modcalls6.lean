theorem ffr_first {f : Nat → Bool} : ∀ {n p k : Nat}, ffr f n p = some k → ∀ i, p ≤ i → i < k → f i = false
  | 0, p, k, h => by unfold ffr at h; exact absurd h (by simp)
  | n + 1, p, k, h => by
    intro i h1 h2
    unfold ffr at h
    by_cases e : f p = true
    · rw [if_pos e] at h
      have := Option.some.inj h
      omega
    · rw [if_neg e] at h
      by_cases hp : i = p
      · subst hp; exact Bool.eq_false_iff.mpr e
      · exact ffr_first h i (by omega) h2
theorem ffr_no {f : Nat → Bool} : ∀ {n p : Nat}, ffr f n p = none → ∀ i, p ≤ i → i < p + n → f i = false
  | 0, p, _ => fun i h1 h2 => absurd h2 (by omega)
  | n + 1, p, h => by
    intro i h1 h2
    unfold ffr at h
    by_cases e : f p = true
    · rw [if_pos e] at h; exact absurd h (by simp)
    · rw [if_neg e] at h
      by_cases hp : i = p
      · subst hp; exact Bool.eq_false_iff.mpr e
      · exact ffr_no h i (by omega) (by omega)
theorem dy840 {F : FK} (hW : WF F) {p : Nat} (hp : p < 6) (hb : F.1.testBit p = true) (t s : Int) (hts : (t - s) % 840 = 0) : dy F p t = dy F p s := by
  obtain ⟨_, hs, _⟩ := hW.2 p hp hb
  have h : (t - F.2.1 p) % F.2.2.1 p = (s - F.2.1 p) % F.2.2.1 p := by
    have : F.2.2.1 p = 5 ∨ F.2.2.1 p = 6 ∨ F.2.2.1 p = 7 ∨ F.2.2.1 p = 8 := by omega
    rcases this with e | e | e | e <;> rw [e] <;> omega
  unfold dy
  rw [h]
theorem hv840 {F : FK} (hW : WF F) (D t s : Int) (hts : (t - s) % 840 = 0) : hv F D t = hv F D s := by
  unfold hv
  refine orb_cg (fun p hp => ?_)
  unfold hvB
  cases hb : F.1.testBit p with
  | false => rfl
  | true => rw [dy840 hW hp hb t s hts]
theorem mk840 {F : FK} (hW : WF F) (D m : Int) (t s : Nat) (hts : ((t : Int) - (s : Int)) % 840 = 0) : mkB F D m t = mkB F D m s := by
  unfold mkB; rw [hv840 hW D _ _ hts]
theorem rs_1 {f : Nat → Bool} {a : Nat} (hk : f a = true) : rowS f a 1 = (0, 0) := by
  have h1 : f (a + 0) = true := hk
  have := rowS_t h1
  exact Prod.ext this.1 (this.2.trans (by simp [rowS]))
theorem rs_cat {f : Nat → Bool} {a n : Nat} (hk : f (a + n) = true) : ∀ j : Nat, (rowS f a (n + (j + 1))).1 = (rowS f (a + n) (j + 1)).1 ∧ (rowS f a (n + (j + 1))).2 = max (rowS f a n).2 (rowS f (a + n) (j + 1)).2
  | 0 => by
    have h0 := rowS_in f a n
    have h1 := rowS_t hk
    rw [rs_1 hk]
    refine ⟨h1.1, h1.2.trans ?_⟩
    rw [if_neg (by omega)]
    show _ = max (rowS f a n).2 0
    omega
  | j + 1 => by
    have ih := rs_cat hk j
    have e : a + (n + (j + 1)) = (a + n) + (j + 1) := by omega
    cases hf : f (a + n + (j + 1)) with
    | false =>
      have h1 := rowS_f (f := f) (a := a) (n := n + (j + 1)) (by rw [e]; exact hf)
      have h2 := rowS_f (f := f) (a := a + n) (n := j + 1) hf
      show (rowS f a ((n + (j + 1)) + 1)).1 = (rowS f (a + n) ((j + 1) + 1)).1 ∧ (rowS f a ((n + (j + 1)) + 1)).2 = max (rowS f a n).2 (rowS f (a + n) ((j + 1) + 1)).2
      rw [h1.1, h1.2, h2.1, h2.2, ih.1, ih.2]
      refine ⟨rfl, ?_⟩
      split <;> split <;> omega
    | true =>
      have h1 := rowS_t (f := f) (a := a) (n := n + (j + 1)) (by rw [e]; exact hf)
      have h2 := rowS_t (f := f) (a := a + n) (n := j + 1) hf
      show (rowS f a ((n + (j + 1)) + 1)).1 = (rowS f (a + n) ((j + 1) + 1)).1 ∧ (rowS f a ((n + (j + 1)) + 1)).2 = max (rowS f a n).2 (rowS f (a + n) ((j + 1) + 1)).2
      rw [h1.1, h1.2, h2.1, h2.2, ih.2]
      refine ⟨rfl, ?_⟩
      split <;> split <;> omega
theorem rs_none {f : Nat → Bool} {a : Nat} : ∀ n : Nat, (∀ i, i < n → f (a + i) = false) → (rowS f a n).1 = (n : Int) ∧ (rowS f a n).2 = (n : Int)
  | 0, _ => ⟨rfl, rfl⟩
  | n + 1, h => by
    have ih := rs_none n (fun i hi => h i (by omega))
    have h1 := rowS_f (h n (by omega))
    rw [h1.1, h1.2, ih.1, ih.2]
    exact ⟨by omega, by rw [if_pos (by omega)]; omega⟩
theorem rs_tail {f : Nat → Bool} {a n : Nat} : ∀ j : Nat, (∀ i, i < j → f (a + n + i) = false) → (j : Int) ≤ (rowS f a (n + j)).1
  | 0, _ => (rowS_in f a n).1.1
  | j + 1, h => by
    have ih := rs_tail j (fun i hi => h i (by omega))
    have h1 := rowS_f (f := f) (a := a) (n := n + j) (by rw [← Nat.add_assoc]; exact h j (by omega))
    show _ ≤ (rowS f a ((n + j) + 1)).1
    rw [h1.1]; omega
theorem rs_ge (f : Nat → Bool) (a : Nat) : ∀ n : Nat, (rowS f a n).1 ≤ (rowS f a n).2
  | 0 => Int.le_refl _
  | n + 1 => by
    rw [rowS]
    show (if f (a + n) then 0 else (rowS f a n).1 + 1) ≤ _
    show _ ≤ (if (rowS f a n).2 < (if f (a + n) then 0 else (rowS f a n).1 + 1) then (if f (a + n) then 0 else (rowS f a n).1 + 1) else (rowS f a n).2)
    by_cases h : (rowS f a n).2 < (if f (a + n) then 0 else (rowS f a n).1 + 1)
    · rw [if_pos h]; exact Int.le_refl _
    · rw [if_neg h]; omega
theorem rs_mono (f : Nat → Bool) (a n : Nat) : ∀ j : Nat, (rowS f a n).2 ≤ (rowS f a (n + j)).2
  | 0 => Int.le_refl _
  | j + 1 => by
    have ih := rs_mono f a n j
    show _ ≤ (rowS f a ((n + j) + 1)).2
    cases hf : f (a + (n + j)) with
    | false => rw [(rowS_f hf).2]; split <;> omega
    | true => rw [(rowS_t hf).2]; split <;> omega
theorem rs_cg {f g : Nat → Bool} {a b : Nat} : ∀ n : Nat, (∀ i, i < n → f (a + i) = g (b + i)) → rowS f a n = rowS g b n
  | 0, _ => rfl
  | n + 1, h => by rw [rowS, rowS, rs_cg n (fun i hi => h i (by omega)), h n (by omega)]
theorem rs_all {f : Nat → Bool} (hper : ∀ t, f (t + 840) = f t) {k : Nat} (hk : k < 840) (hf : f k = true) (hno : ∀ i, i < k → f i = false) : (rowS f k 841).2 = (rowS f 0 1680).2 := by
  have a1 := rs_none (f := f) (a := 0) k (fun i hi => by rw [Nat.zero_add]; exact hno i hi)
  have a2 := (rs_cat (f := f) (a := 0) (n := k) (by rw [Nat.zero_add]; exact hf) (1679 - k)).2
  rw [show k + (1679 - k + 1) = 1680 by omega, show 0 + k = k by omega, show 1679 - k + 1 = 840 + (839 - k + 1) by omega, a1.2] at a2
  have a3 := (rs_cat (f := f) (a := k) (n := 840) (by rw [hper]; exact hf) (839 - k)).2
  have a4 : rowS f (k + 840) (839 - k + 1) = rowS f k (839 - k + 1) := rs_cg _ (fun i _ => by rw [show k + 840 + i = (k + i) + 840 by omega, hper])
  have a5 := rs_mono f k (839 - k + 1) k
  rw [show 839 - k + 1 + k = 840 by omega] at a5
  have a6 := (rs_cat (f := f) (a := k) (n := 840) (by rw [hper]; exact hf) 0).2
  have a7 : rowS f (k + 840) (0 + 1) = (0, 0) := rs_1 (by rw [hper]; exact hf)
  have a8 := rs_tail (f := f) (a := k) (n := 840 - k) k (fun i hi => by rw [show k + (840 - k) + i = i + 840 by omega, hper]; exact hno i hi)
  rw [show 840 - k + k = 840 by omega] at a8
  have a9 := rs_ge f k 840
  have a10 := rowS_in f k 840
  rw [a4] at a3
  rw [a7] at a6
  show (rowS f k (840 + (0 + 1))).2 = _
  rw [a6, a2, a3]
  show max (rowS f k 840).2 0 = _
  omega
/-- the first of n, from 0 on -/
def frs (g : Nat → Bool) (n : Nat) : Int := match ffr g n 0 with | some k => (k : Int) | none => -6
theorem ffr_snoc {g : Nat → Bool} : ∀ {n p : Nat}, ffr g (n + 1) p = match ffr g n p with | some k => some k | none => if g (p + n) then some (p + n) else none
  | 0, p => by simp [ffr]
  | n + 1, p => by
    rw [ffr, ffr_snoc (n := n) (p := p + 1)]
    conv => rhs; rw [ffr]
    by_cases h : g p = true
    · rw [if_pos h, if_pos h]
    · rw [if_neg h, if_neg h, show p + 1 + n = p + (n + 1) by omega]
theorem frs_s (g : Nat → Bool) (n : Nat) : frs g (n + 1) = if frs g n < 0 ∧ g n = true then (n : Int) else frs g n := by
  unfold frs
  rw [ffr_snoc, Nat.zero_add]
  cases hf : ffr g n 0 with
  | some k => show (k : Int) = if (k : Int) < 0 ∧ _ then _ else (k : Int); rw [if_neg (by omega)]
  | none =>
    show (match (if g n = true then some n else none) with | some k => (k : Int) | none => -6) = if (-6 : Int) < 0 ∧ g n = true then (n : Int) else -6
    by_cases h : g n = true
    · rw [if_pos h, if_pos ⟨by decide, h⟩]
    · rw [if_neg h, if_neg (fun z => h z.2)]
theorem frs_in (g : Nat → Bool) (n : Nat) : -6 ≤ frs g n ∧ frs g n ≤ (n : Int) := by
  unfold frs
  cases hf : ffr g n 0 with
  | some k => have := (ffr_lt hf).2.1; show -6 ≤ (k : Int) ∧ (k : Int) ≤ _; omega
  | none => show -6 ≤ (-6 : Int) ∧ (-6 : Int) ≤ _; omega
theorem frs_e {g : Nat → Bool} (hper : ∀ t, g (t + 840) = g t) : frs g 1680 = firstR g := by
  rcases firstR_c g with ⟨h1, h2⟩ | ⟨k, h2, hk, h1⟩
  · rw [h1]
    have hn := ffr_no h2
    have : ffr g 1680 0 = none := ffr_none (fun i _ hi => by
      by_cases h : i < 840
      · exact hn i (Nat.zero_le _) (by omega)
      · rw [show i = (i - 840) + 840 by omega, hper]; exact hn _ (Nat.zero_le _) (by omega))
    unfold frs; rw [this]
  · rw [h1]
    have hb := (ffr_lt h2).2.2
    have hno : ∀ i, i < k → g i = false := by
      intro i hi
      exact ffr_first h2 i (Nat.zero_le _) hi
    unfold frs
    rw [ffr_some (Nat.zero_le _) (by omega : k < 0 + 1680) hb (fun i _ hi => hno i hi)]
theorem cn_half {g : Nat → Bool} : cnt (fun t => g t && decide (t < 840)) 1680 = cnt g 840 := by
  have h : ∀ n, cnt (fun t => g t && decide (t < 840)) (840 + n) = cnt g 840 := by
    intro n
    induction n with
    | zero => exact cnt_cg (fun i hi => by rw [decide_eq_true hi, Bool.and_true])
    | succ n ih =>
      show cnt _ ((840 + n) + 1) = _
      rw [cnt_s, ih, if_neg (by rw [decide_eq_false (by omega), Bool.and_false]; decide), Nat.add_zero]
  exact h 840
theorem long_e {g : Nat → Bool} (hper : ∀ t, g (t + 840) = g t) (h : cnt g 840 ≠ 0) : longR g = (rowS g 0 1680).2 := by
  rcases firstR_c g with ⟨h1, h2⟩ | ⟨k, h2, hk, h1⟩
  · exfalso
    refine h (cnt0.mpr ?_)
    refine exn_f (fun i hi => ?_)
    exact ffr_no h2 i (Nat.zero_le _) (by omega)
  · rw [longR_s h2]
    exact rs_all hper hk (ffr_lt h2).2.2 (fun i hi => ffr_first h2 i (Nat.zero_le _) hi)
theorem long_0 {g : Nat → Bool} (h : cnt g 840 = 0) : longR g = 840 := by
  refine longR_n (firstR_n (ffr_none (fun i _ hi => ?_)))
  have := cnt0.mp h
  cases hg : g i with
  | false => rfl
  | true => rw [exn_t (by omega) hg] at this; exact absurd this (by decide)
section
variable {G : GG} {l : Launch}
variable {h : Hp} {m : Nat} {A : Nat → Nat} {F : FK} {P : PL} {T : ST} {K : PD} {la im ik : Nat → Int}
set_option maxHeartbeats 4000000 in
set_option maxRecDepth 20000 in
theorem c_X7_market (d : Nat) (hM : ModAt G h m A F P T K la im ik) (hW : WF F) (hK : WFK K) (hP : WFP P) (hT : WFT T) (D mn w : Int) (hD : inR D) (hm : inR mn) (hw : inR w) : CT G l mX7_market (d + 4) 0 0 [.ref m, .int (zI (D)), .int (zI (mn)), .int (zI (w))] h (RQ h (marketR F D mn w)) := by
  refine CT.of (by decide) (Nat.le_of_ble_eq_true rfl) (List.forall_mem_cons.mpr ⟨rfl, List.forall_mem_cons.mpr ⟨rfl, List.forall_mem_cons.mpr ⟨rfl, List.forall_mem_cons.mpr ⟨rfl, fun _ h => absurd h List.not_mem_nil⟩⟩⟩⟩) ?_
  refine EV.lvs (lv' := [some (.ref m), some (.int (zI (D))), some (.int (zI (mn))), some (.int (zI (w))), none, none, none, none, none, none]) rfl ?_
  have ⟨hcm, hc0, hc1, hc2, hc3, hc4, hc5, hc6, hc7, hc8, hc9⟩ := hM
  have hth := hW.1
  have hK6 := hK.1
  have hP6 := hP.1
  have hT6 := hT.1
  have hsf : ∀ q, q < 6 → F.1.testBit q = true → F.1.testBit q = true := fun _ _ z => z
  refine EV.iload_n (i := 1) dX7_market_0 rfl rfl ?_
  refine EV.callSr (M' := mX7_isDay) (as := [.int (zI (D))]) (rest := []) ml_X7_56 sm_X7_isDay co_X7_isDay dX7_market_1 (c_X7_isDay (d + 1) D (by omega)) rfl rfl (Nat.le_of_ble_eq_true rfl) ?_
  refine EV.ifneB (t := 9) dX7_market_4 (by decide) (fun c4 => ?_) (fun c4 => ?_)
  · skip
    have c4r := of_rg c4
    refine EV.iload_n (i := 2) dX7_market_9 rfl rfl ?_
    refine EV.iconst dX7_market_10 ?_
    refine EV.bipush dX7_market_11 (by decide) ?_
    refine EV.callSr (M' := mX7_in) (as := [.int (zI (mn)), .int (zI (1)), .int (zI (6))]) (rest := []) ml_X7_45 sm_X7_in co_X7_in dX7_market_13 (c_X7_in (d + 2) mn 1 6 (by omega) (by omega) (by omega)) rfl rfl (Nat.le_of_ble_eq_true rfl) ?_
    refine EV.ifeqB (t := 28) dX7_market_16 (by decide) (fun c16 => ?_) (fun c16 => ?_)
    · skip
      have c16r := of_nrg c16
      refine EV.bipush dX7_market_28 (by decide) ?_
      refine EV.iret rfl dX7_market_30 ?_
      exact rQ (by rw [marketR, if_pos c4, if_neg (by rw [c16]; simp)])
    · skip
      have c16r := of_rg c16
      refine EV.iload_n (i := 3) dX7_market_19 rfl rfl ?_
      refine EV.iconst dX7_market_20 ?_
      refine EV.iconst dX7_market_21 ?_
      refine EV.callSr (M' := mX7_in) (as := [.int (zI (w)), .int (zI (0)), .int (zI (2))]) (rest := []) ml_X7_45 sm_X7_in co_X7_in dX7_market_22 (c_X7_in (d + 2) w 0 2 (by omega) (by omega) (by omega)) rfl rfl (Nat.le_of_ble_eq_true rfl) ?_
      refine EV.ifneB (t := 31) dX7_market_25 (by decide) (fun c25 => ?_) (fun c25 => ?_)
      · skip
        have c25r := of_rg c25
        refine EV.iconst dX7_market_31 ?_
        refine EV.istore (i := 4) (lv' := [some (.ref m), some (.int (zI (D))), some (.int (zI (mn))), some (.int (zI (w))), some (.int (zI (0))), none, none, none, none, none]) dX7_market_32 (by decide) rfl ?_
        refine EV.bipush dX7_market_34 (by decide) ?_
        refine EV.istore (i := 5) (lv' := [some (.ref m), some (.int (zI (D))), some (.int (zI (mn))), some (.int (zI (w))), some (.int (zI (0))), some (.int (zI ((-6)))), none, none, none, none]) dX7_market_36 (by decide) rfl ?_
        refine EV.iconst dX7_market_38 ?_
        refine EV.istore (i := 6) (lv' := [some (.ref m), some (.int (zI (D))), some (.int (zI (mn))), some (.int (zI (w))), some (.int (zI (0))), some (.int (zI ((-6)))), some (.int (zI (0))), none, none, none]) dX7_market_39 (by decide) rfl ?_
        refine EV.iconst dX7_market_41 ?_
        refine EV.istore (i := 7) (lv' := [some (.ref m), some (.int (zI (D))), some (.int (zI (mn))), some (.int (zI (w))), some (.int (zI (0))), some (.int (zI ((-6)))), some (.int (zI (0))), some (.int (zI (0))), none, none]) dX7_market_42 (by decide) rfl ?_
        refine EV.iconst dX7_market_44 ?_
        refine EV.istore (i := 8) (lv' := [some (.ref m), some (.int (zI (D))), some (.int (zI (mn))), some (.int (zI (w))), some (.int (zI (0))), some (.int (zI ((-6)))), some (.int (zI (0))), some (.int (zI (0))), some (.int (zI (0))), none]) dX7_market_45 (by decide) rfl ?_
        have L47 : ∀ (n47 : Nat) (d0 : Nat) (x4 x5 x6 x7 x8 : Int), (d0 ≤ 1680) → 1680 - d0 < n47 → x4 = ((cnt (fun t => mkB F D mn t && decide (t < 840)) d0 : Nat) : Int) → x5 = frs (mkB F D mn) d0 → x6 = (rowS (mkB F D mn) 0 d0).1 → x7 = (rowS (mkB F D mn) 0 d0).2 → x8 = (d0 : Int) → EV G l mX7_market (d + 4) (RQ h (marketR F D mn w)) 47 [some (.ref m), some (.int (zI (D))), some (.int (zI (mn))), some (.int (zI (w))), some (.int (zI (x4))), some (.int (zI (x5))), some (.int (zI (x6))), some (.int (zI (x7))), some (.int (zI (x8))), none] [] h 0 0 := by
          intro n47
          induction n47 with
          | zero => intro _ _ _ _ _ _ _ hm; exact absurd hm (Nat.not_lt_zero _)
          | succ n47 ih47 =>
            intro d0 x4 x5 x6 x7 x8 hd hm47 e4 e5 e6 e7 e8
            subst e4 e5 e6 e7 e8
            have hri := rowS_in (mkB F D mn) 0 d0
            have hfi := frs_in (mkB F D mn) d0
            have hcl := cnt_le (fun t => mkB F D mn t && decide (t < 840)) d0
            refine EV.iload (i := 8) dX7_market_47 rfl ?_
            refine EV.sipush dX7_market_49 (by decide) ?_
            refine EV.icmp_ge (t := 163) dX7_market_52 (by decide) (by omega) (fun c52 => ?_) (fun c52 => ?_)
            · skip
              obtain rfl : d0 = 1680 := by omega
              have q1 : cnt (fun t => mkB F D mn t && decide (t < 840)) 1680 = cnt (mkB F D mn) 840 := cn_half
              have hper : ∀ t, mkB F D mn (t + 840) = mkB F D mn t := fun t => mk840 hW D mn _ _ (by omega)
              refine EV.iload_n (i := 3) dX7_market_163 rfl rfl ?_
              refine EV.ifne (t := 172) dX7_market_164 (by decide) (by omega) (fun c164 => ?_) (fun c164 => ?_)
              · skip
                refine EV.iload_n (i := 3) dX7_market_172 rfl rfl ?_
                refine EV.iconst dX7_market_173 ?_
                refine EV.icmp_ne (t := 182) dX7_market_174 (by decide) (by omega) (fun c174 => ?_) (fun c174 => ?_)
                · skip
                  refine EV.iload (i := 4) dX7_market_182 rfl ?_
                  refine EV.ifne (t := 193) dX7_market_184 (by decide) (by omega) (fun c184 => ?_) (fun c184 => ?_)
                  · skip
                    refine EV.iload (i := 7) dX7_market_193 rfl ?_
                    refine EV.iret rfl dX7_market_195 ?_
                    exact rQ (by rw [marketR, if_pos c4, if_pos (by rw [c16, c25]; rfl), if_neg c164, if_neg c174]; exact (long_e hper (by omega)).symm)
                  · skip
                    refine EV.sipush dX7_market_187 (by decide) ?_
                    refine EV.goto (t := 195) dX7_market_190 (by decide) ?_
                    refine EV.iret rfl dX7_market_195 ?_
                    exact rQ (by rw [marketR, if_pos c4, if_pos (by rw [c16, c25]; rfl), if_neg c164, if_neg c174]; exact (long_0 (by omega)).symm)
                · skip
                  refine EV.iload (i := 5) dX7_market_177 rfl ?_
                  refine EV.goto (t := 195) dX7_market_179 (by decide) ?_
                  refine EV.iret rfl dX7_market_195 ?_
                  exact rQ (by rw [marketR, if_pos c4, if_pos (by rw [c16, c25]; rfl), if_neg c164, if_pos c174]; exact frs_e hper)
              · skip
                refine EV.iload (i := 4) dX7_market_167 rfl ?_
                refine EV.goto (t := 195) dX7_market_169 (by decide) ?_
                refine EV.iret rfl dX7_market_195 ?_
                exact rQ (by rw [marketR, if_pos c4, if_pos (by rw [c16, c25]; rfl), if_pos c164, q1])
            · skip
              refine EV.aload_n (i := 0) dX7_market_55 rfl rfl ?_
              refine EV.aload_n (i := 0) dX7_market_56 rfl rfl ?_
              refine EV.getf fl_X7_41 dX7_market_57 hcm rfl ?_
              refine EV.iload_n (i := 1) dX7_market_60 rfl rfl ?_
              refine EV.iload (i := 8) dX7_market_61 rfl ?_
              refine EV.sipush dX7_market_63 (by decide) ?_
              refine EV.irem dX7_market_66 (by omega) ?_
              refine EV.top (y := zI (((d0 % 840 : Nat) : Int))) (rfl) ?_
              refine EV.callVr (M' := mX7_having) (as := [.int (zI ((F.1 : Int))), .int (zI (D)), .int (zI (((d0 % 840 : Nat) : Int)))]) (rest := []) ml_X7_84 im_X7_having se_X7_having rfl co_X7_having dX7_market_67 hcm (c_X7_having (d + 1) hM hW F.1 D ((d0 % 840 : Nat) : Int) (by omega) hsf (by omega) (by omega)) rfl rfl (Nat.le_of_ble_eq_true rfl) ?_
              refine EV.top (y := zI ((hv F D (d0 : Int) : Int))) (by rw [show hs F F.1 D ((d0 % 840 : Nat) : Int) = hv F D (d0 : Int) from hv840 hW D _ _ (by omega)]) ?_
              have hvl := hv_lt F D (d0 : Int)
              refine EV.callSr (M' := mX7_bits) (as := [.int (zI ((hv F D (d0 : Int) : Int)))]) (rest := []) ml_X7_70 sm_X7_bits co_X7_bits dX7_market_70 (c_X7_bits (d + 2) (hv F D (d0 : Int)) (by omega)) rfl rfl (Nat.le_of_ble_eq_true rfl) ?_
              have hpl := pop_le (hv F D (d0 : Int))
              refine EV.iload_n (i := 2) dX7_market_73 rfl rfl ?_
              refine EV.icmp_lt (t := 81) dX7_market_74 (by decide) (by omega) (fun c74 => ?_) (fun c74 => ?_)
              · skip
                have hg : mkB F D mn d0 = false := decide_eq_false (by omega)
                have hg0 : mkB F D mn (0 + d0) = false := by rw [Nat.zero_add]; exact hg
                refine EV.iconst dX7_market_81 ?_
                refine EV.istore (i := 9) (lv' := [some (.ref m), some (.int (zI (D))), some (.int (zI (mn))), some (.int (zI (w))), some (.int (zI (((cnt (fun t => mkB F D mn t && decide (t < 840)) d0 : Nat) : Int)))), some (.int (zI (frs (mkB F D mn) d0))), some (.int (zI ((rowS (mkB F D mn) 0 d0).1))), some (.int (zI ((rowS (mkB F D mn) 0 d0).2))), some (.int (zI ((d0 : Int)))), some (.int (zI (0)))]) dX7_market_82 (by decide) rfl ?_
                refine EV.iload (i := 5) dX7_market_84 rfl ?_
                refine EV.ifge (t := 99) dX7_market_86 (by decide) (by omega) (fun c86 => ?_) (fun c86 => ?_)
                · skip
                  refine EV.iload (i := 5) dX7_market_99 rfl ?_
                  refine EV.istore (i := 5) (lv' := [some (.ref m), some (.int (zI (D))), some (.int (zI (mn))), some (.int (zI (w))), some (.int (zI (((cnt (fun t => mkB F D mn t && decide (t < 840)) d0 : Nat) : Int)))), some (.int (zI (frs (mkB F D mn) d0))), some (.int (zI ((rowS (mkB F D mn) 0 d0).1))), some (.int (zI ((rowS (mkB F D mn) 0 d0).2))), some (.int (zI ((d0 : Int)))), some (.int (zI (0)))]) dX7_market_101 (by decide) rfl ?_
                  refine EV.iload (i := 4) dX7_market_103 rfl ?_
                  refine EV.iload (i := 9) dX7_market_105 rfl ?_
                  refine EV.ifeq (t := 122) dX7_market_107 (by decide) (by omega) (fun c107 => ?_) (fun c107 => ?_)
                  · skip
                    refine EV.iconst dX7_market_122 ?_
                    refine EV.iadd dX7_market_123 ?_
                    refine EV.istore (i := 4) (lv' := [some (.ref m), some (.int (zI (D))), some (.int (zI (mn))), some (.int (zI (w))), some (.int (zI ((((cnt (fun t => mkB F D mn t && decide (t < 840)) d0 : Nat) : Int) + 0)))), some (.int (zI (frs (mkB F D mn) d0))), some (.int (zI ((rowS (mkB F D mn) 0 d0).1))), some (.int (zI ((rowS (mkB F D mn) 0 d0).2))), some (.int (zI ((d0 : Int)))), some (.int (zI (0)))]) dX7_market_124 (by decide) rfl ?_
                    refine EV.iload (i := 9) dX7_market_126 rfl ?_
                    refine EV.ifeq (t := 135) dX7_market_128 (by decide) (by omega) (fun c128 => ?_) (fun c128 => ?_)
                    · skip
                      refine EV.iload (i := 6) dX7_market_135 rfl ?_
                      refine EV.iconst dX7_market_137 ?_
                      refine EV.iadd dX7_market_138 ?_
                      refine EV.istore (i := 6) (lv' := [some (.ref m), some (.int (zI (D))), some (.int (zI (mn))), some (.int (zI (w))), some (.int (zI ((((cnt (fun t => mkB F D mn t && decide (t < 840)) d0 : Nat) : Int) + 0)))), some (.int (zI (frs (mkB F D mn) d0))), some (.int (zI (((rowS (mkB F D mn) 0 d0).1 + 1)))), some (.int (zI ((rowS (mkB F D mn) 0 d0).2))), some (.int (zI ((d0 : Int)))), some (.int (zI (0)))]) dX7_market_139 (by decide) rfl ?_
                      refine EV.iload (i := 6) dX7_market_141 rfl ?_
                      refine EV.iload (i := 7) dX7_market_143 rfl ?_
                      refine EV.icmp_le (t := 153) dX7_market_145 (by decide) (by omega) (fun c145 => ?_) (fun c145 => ?_)
                      · skip
                        refine EV.iload (i := 7) dX7_market_153 rfl ?_
                        refine EV.istore (i := 7) (lv' := [some (.ref m), some (.int (zI (D))), some (.int (zI (mn))), some (.int (zI (w))), some (.int (zI ((((cnt (fun t => mkB F D mn t && decide (t < 840)) d0 : Nat) : Int) + 0)))), some (.int (zI (frs (mkB F D mn) d0))), some (.int (zI (((rowS (mkB F D mn) 0 d0).1 + 1)))), some (.int (zI ((rowS (mkB F D mn) 0 d0).2))), some (.int (zI ((d0 : Int)))), some (.int (zI (0)))]) dX7_market_155 (by decide) rfl ?_
                        refine EV.iinc (i := 8) (lv' := [some (.ref m), some (.int (zI (D))), some (.int (zI (mn))), some (.int (zI (w))), some (.int (zI ((((cnt (fun t => mkB F D mn t && decide (t < 840)) d0 : Nat) : Int) + 0)))), some (.int (zI (frs (mkB F D mn) d0))), some (.int (zI (((rowS (mkB F D mn) 0 d0).1 + 1)))), some (.int (zI ((rowS (mkB F D mn) 0 d0).2))), some (.int (zI ((d0 : Int) + 1))), some (.int (zI (0)))]) dX7_market_157 rfl (by decide) rfl ?_
                        refine EV.goto (t := 47) dX7_market_160 (by decide) ?_
                        refine EV.drop 9 (lv' := [some (.ref m), some (.int (zI (D))), some (.int (zI (mn))), some (.int (zI (w))), some (.int (zI ((((cnt (fun t => mkB F D mn t && decide (t < 840)) d0 : Nat) : Int) + 0)))), some (.int (zI (frs (mkB F D mn) d0))), some (.int (zI (((rowS (mkB F D mn) 0 d0).1 + 1)))), some (.int (zI ((rowS (mkB F D mn) 0 d0).2))), some (.int (zI (((d0 : Int) + 1)))), none]) rfl ?_
                        exact ih47 (d0 + 1) _ _ _ _ _ (by omega) (by omega) (by rw [Int.add_zero]; exact cnt_n (f := (fun t => mkB F D mn t && decide (t < 840))) (by show (mkB F D mn d0 && decide (d0 < 840)) = false; rw [hg]; rfl)) (by rw [frs_s, if_neg (by rw [hg]; simp)]) ((rowS_f hg0).1.symm) (((rowS_f hg0).2.trans (if_neg (by omega))).symm) (rfl)
                      · skip
                        refine EV.iload (i := 6) dX7_market_148 rfl ?_
                        refine EV.goto (t := 155) dX7_market_150 (by decide) ?_
                        refine EV.istore (i := 7) (lv' := [some (.ref m), some (.int (zI (D))), some (.int (zI (mn))), some (.int (zI (w))), some (.int (zI ((((cnt (fun t => mkB F D mn t && decide (t < 840)) d0 : Nat) : Int) + 0)))), some (.int (zI (frs (mkB F D mn) d0))), some (.int (zI (((rowS (mkB F D mn) 0 d0).1 + 1)))), some (.int (zI (((rowS (mkB F D mn) 0 d0).1 + 1)))), some (.int (zI ((d0 : Int)))), some (.int (zI (0)))]) dX7_market_155 (by decide) rfl ?_
                        refine EV.iinc (i := 8) (lv' := [some (.ref m), some (.int (zI (D))), some (.int (zI (mn))), some (.int (zI (w))), some (.int (zI ((((cnt (fun t => mkB F D mn t && decide (t < 840)) d0 : Nat) : Int) + 0)))), some (.int (zI (frs (mkB F D mn) d0))), some (.int (zI (((rowS (mkB F D mn) 0 d0).1 + 1)))), some (.int (zI (((rowS (mkB F D mn) 0 d0).1 + 1)))), some (.int (zI ((d0 : Int) + 1))), some (.int (zI (0)))]) dX7_market_157 rfl (by decide) rfl ?_
                        refine EV.goto (t := 47) dX7_market_160 (by decide) ?_
                        refine EV.drop 9 (lv' := [some (.ref m), some (.int (zI (D))), some (.int (zI (mn))), some (.int (zI (w))), some (.int (zI ((((cnt (fun t => mkB F D mn t && decide (t < 840)) d0 : Nat) : Int) + 0)))), some (.int (zI (frs (mkB F D mn) d0))), some (.int (zI (((rowS (mkB F D mn) 0 d0).1 + 1)))), some (.int (zI (((rowS (mkB F D mn) 0 d0).1 + 1)))), some (.int (zI (((d0 : Int) + 1)))), none]) rfl ?_
                        exact ih47 (d0 + 1) _ _ _ _ _ (by omega) (by omega) (by rw [Int.add_zero]; exact cnt_n (f := (fun t => mkB F D mn t && decide (t < 840))) (by show (mkB F D mn d0 && decide (d0 < 840)) = false; rw [hg]; rfl)) (by rw [frs_s, if_neg (by rw [hg]; simp)]) ((rowS_f hg0).1.symm) (((rowS_f hg0).2.trans (if_pos (by omega))).symm) (rfl)
                    · skip
                      omega
                  · skip
                    omega
                · skip
                  refine EV.iload (i := 9) dX7_market_89 rfl ?_
                  refine EV.ifeq (t := 99) dX7_market_91 (by decide) (by omega) (fun c91 => ?_) (fun c91 => ?_)
                  · skip
                    refine EV.iload (i := 5) dX7_market_99 rfl ?_
                    refine EV.istore (i := 5) (lv' := [some (.ref m), some (.int (zI (D))), some (.int (zI (mn))), some (.int (zI (w))), some (.int (zI (((cnt (fun t => mkB F D mn t && decide (t < 840)) d0 : Nat) : Int)))), some (.int (zI (frs (mkB F D mn) d0))), some (.int (zI ((rowS (mkB F D mn) 0 d0).1))), some (.int (zI ((rowS (mkB F D mn) 0 d0).2))), some (.int (zI ((d0 : Int)))), some (.int (zI (0)))]) dX7_market_101 (by decide) rfl ?_
                    refine EV.iload (i := 4) dX7_market_103 rfl ?_
                    refine EV.iload (i := 9) dX7_market_105 rfl ?_
                    refine EV.ifeq (t := 122) dX7_market_107 (by decide) (by omega) (fun c107 => ?_) (fun c107 => ?_)
                    · skip
                      refine EV.iconst dX7_market_122 ?_
                      refine EV.iadd dX7_market_123 ?_
                      refine EV.istore (i := 4) (lv' := [some (.ref m), some (.int (zI (D))), some (.int (zI (mn))), some (.int (zI (w))), some (.int (zI ((((cnt (fun t => mkB F D mn t && decide (t < 840)) d0 : Nat) : Int) + 0)))), some (.int (zI (frs (mkB F D mn) d0))), some (.int (zI ((rowS (mkB F D mn) 0 d0).1))), some (.int (zI ((rowS (mkB F D mn) 0 d0).2))), some (.int (zI ((d0 : Int)))), some (.int (zI (0)))]) dX7_market_124 (by decide) rfl ?_
                      refine EV.iload (i := 9) dX7_market_126 rfl ?_
                      refine EV.ifeq (t := 135) dX7_market_128 (by decide) (by omega) (fun c128 => ?_) (fun c128 => ?_)
                      · skip
                        refine EV.iload (i := 6) dX7_market_135 rfl ?_
                        refine EV.iconst dX7_market_137 ?_
                        refine EV.iadd dX7_market_138 ?_
                        refine EV.istore (i := 6) (lv' := [some (.ref m), some (.int (zI (D))), some (.int (zI (mn))), some (.int (zI (w))), some (.int (zI ((((cnt (fun t => mkB F D mn t && decide (t < 840)) d0 : Nat) : Int) + 0)))), some (.int (zI (frs (mkB F D mn) d0))), some (.int (zI (((rowS (mkB F D mn) 0 d0).1 + 1)))), some (.int (zI ((rowS (mkB F D mn) 0 d0).2))), some (.int (zI ((d0 : Int)))), some (.int (zI (0)))]) dX7_market_139 (by decide) rfl ?_
                        refine EV.iload (i := 6) dX7_market_141 rfl ?_
                        refine EV.iload (i := 7) dX7_market_143 rfl ?_
                        refine EV.icmp_le (t := 153) dX7_market_145 (by decide) (by omega) (fun c145 => ?_) (fun c145 => ?_)
                        · skip
                          refine EV.iload (i := 7) dX7_market_153 rfl ?_
                          refine EV.istore (i := 7) (lv' := [some (.ref m), some (.int (zI (D))), some (.int (zI (mn))), some (.int (zI (w))), some (.int (zI ((((cnt (fun t => mkB F D mn t && decide (t < 840)) d0 : Nat) : Int) + 0)))), some (.int (zI (frs (mkB F D mn) d0))), some (.int (zI (((rowS (mkB F D mn) 0 d0).1 + 1)))), some (.int (zI ((rowS (mkB F D mn) 0 d0).2))), some (.int (zI ((d0 : Int)))), some (.int (zI (0)))]) dX7_market_155 (by decide) rfl ?_
                          refine EV.iinc (i := 8) (lv' := [some (.ref m), some (.int (zI (D))), some (.int (zI (mn))), some (.int (zI (w))), some (.int (zI ((((cnt (fun t => mkB F D mn t && decide (t < 840)) d0 : Nat) : Int) + 0)))), some (.int (zI (frs (mkB F D mn) d0))), some (.int (zI (((rowS (mkB F D mn) 0 d0).1 + 1)))), some (.int (zI ((rowS (mkB F D mn) 0 d0).2))), some (.int (zI ((d0 : Int) + 1))), some (.int (zI (0)))]) dX7_market_157 rfl (by decide) rfl ?_
                          refine EV.goto (t := 47) dX7_market_160 (by decide) ?_
                          refine EV.drop 9 (lv' := [some (.ref m), some (.int (zI (D))), some (.int (zI (mn))), some (.int (zI (w))), some (.int (zI ((((cnt (fun t => mkB F D mn t && decide (t < 840)) d0 : Nat) : Int) + 0)))), some (.int (zI (frs (mkB F D mn) d0))), some (.int (zI (((rowS (mkB F D mn) 0 d0).1 + 1)))), some (.int (zI ((rowS (mkB F D mn) 0 d0).2))), some (.int (zI (((d0 : Int) + 1)))), none]) rfl ?_
                          exact ih47 (d0 + 1) _ _ _ _ _ (by omega) (by omega) (by rw [Int.add_zero]; exact cnt_n (f := (fun t => mkB F D mn t && decide (t < 840))) (by show (mkB F D mn d0 && decide (d0 < 840)) = false; rw [hg]; rfl)) (by rw [frs_s, if_neg (by rw [hg]; simp)]) ((rowS_f hg0).1.symm) (((rowS_f hg0).2.trans (if_neg (by omega))).symm) (rfl)
                        · skip
                          refine EV.iload (i := 6) dX7_market_148 rfl ?_
                          refine EV.goto (t := 155) dX7_market_150 (by decide) ?_
                          refine EV.istore (i := 7) (lv' := [some (.ref m), some (.int (zI (D))), some (.int (zI (mn))), some (.int (zI (w))), some (.int (zI ((((cnt (fun t => mkB F D mn t && decide (t < 840)) d0 : Nat) : Int) + 0)))), some (.int (zI (frs (mkB F D mn) d0))), some (.int (zI (((rowS (mkB F D mn) 0 d0).1 + 1)))), some (.int (zI (((rowS (mkB F D mn) 0 d0).1 + 1)))), some (.int (zI ((d0 : Int)))), some (.int (zI (0)))]) dX7_market_155 (by decide) rfl ?_
                          refine EV.iinc (i := 8) (lv' := [some (.ref m), some (.int (zI (D))), some (.int (zI (mn))), some (.int (zI (w))), some (.int (zI ((((cnt (fun t => mkB F D mn t && decide (t < 840)) d0 : Nat) : Int) + 0)))), some (.int (zI (frs (mkB F D mn) d0))), some (.int (zI (((rowS (mkB F D mn) 0 d0).1 + 1)))), some (.int (zI (((rowS (mkB F D mn) 0 d0).1 + 1)))), some (.int (zI ((d0 : Int) + 1))), some (.int (zI (0)))]) dX7_market_157 rfl (by decide) rfl ?_
                          refine EV.goto (t := 47) dX7_market_160 (by decide) ?_
                          refine EV.drop 9 (lv' := [some (.ref m), some (.int (zI (D))), some (.int (zI (mn))), some (.int (zI (w))), some (.int (zI ((((cnt (fun t => mkB F D mn t && decide (t < 840)) d0 : Nat) : Int) + 0)))), some (.int (zI (frs (mkB F D mn) d0))), some (.int (zI (((rowS (mkB F D mn) 0 d0).1 + 1)))), some (.int (zI (((rowS (mkB F D mn) 0 d0).1 + 1)))), some (.int (zI (((d0 : Int) + 1)))), none]) rfl ?_
                          exact ih47 (d0 + 1) _ _ _ _ _ (by omega) (by omega) (by rw [Int.add_zero]; exact cnt_n (f := (fun t => mkB F D mn t && decide (t < 840))) (by show (mkB F D mn d0 && decide (d0 < 840)) = false; rw [hg]; rfl)) (by rw [frs_s, if_neg (by rw [hg]; simp)]) ((rowS_f hg0).1.symm) (((rowS_f hg0).2.trans (if_pos (by omega))).symm) (rfl)
                      · skip
                        omega
                    · skip
                      omega
                  · skip
                    omega
              · skip
                have hg : mkB F D mn d0 = true := decide_eq_true (by omega)
                have hg0 : mkB F D mn (0 + d0) = true := by rw [Nat.zero_add]; exact hg
                refine EV.iconst dX7_market_77 ?_
                refine EV.goto (t := 82) dX7_market_78 (by decide) ?_
                refine EV.istore (i := 9) (lv' := [some (.ref m), some (.int (zI (D))), some (.int (zI (mn))), some (.int (zI (w))), some (.int (zI (((cnt (fun t => mkB F D mn t && decide (t < 840)) d0 : Nat) : Int)))), some (.int (zI (frs (mkB F D mn) d0))), some (.int (zI ((rowS (mkB F D mn) 0 d0).1))), some (.int (zI ((rowS (mkB F D mn) 0 d0).2))), some (.int (zI ((d0 : Int)))), some (.int (zI (1)))]) dX7_market_82 (by decide) rfl ?_
                refine EV.iload (i := 5) dX7_market_84 rfl ?_
                refine EV.ifge (t := 99) dX7_market_86 (by decide) (by omega) (fun c86 => ?_) (fun c86 => ?_)
                · skip
                  refine EV.iload (i := 5) dX7_market_99 rfl ?_
                  refine EV.istore (i := 5) (lv' := [some (.ref m), some (.int (zI (D))), some (.int (zI (mn))), some (.int (zI (w))), some (.int (zI (((cnt (fun t => mkB F D mn t && decide (t < 840)) d0 : Nat) : Int)))), some (.int (zI (frs (mkB F D mn) d0))), some (.int (zI ((rowS (mkB F D mn) 0 d0).1))), some (.int (zI ((rowS (mkB F D mn) 0 d0).2))), some (.int (zI ((d0 : Int)))), some (.int (zI (1)))]) dX7_market_101 (by decide) rfl ?_
                  refine EV.iload (i := 4) dX7_market_103 rfl ?_
                  refine EV.iload (i := 9) dX7_market_105 rfl ?_
                  refine EV.ifeq (t := 122) dX7_market_107 (by decide) (by omega) (fun c107 => ?_) (fun c107 => ?_)
                  · skip
                    omega
                  · skip
                    refine EV.iload (i := 8) dX7_market_110 rfl ?_
                    refine EV.sipush dX7_market_112 (by decide) ?_
                    refine EV.icmp_ge (t := 122) dX7_market_115 (by decide) (by omega) (fun c115 => ?_) (fun c115 => ?_)
                    · skip
                      refine EV.iconst dX7_market_122 ?_
                      refine EV.iadd dX7_market_123 ?_
                      refine EV.istore (i := 4) (lv' := [some (.ref m), some (.int (zI (D))), some (.int (zI (mn))), some (.int (zI (w))), some (.int (zI ((((cnt (fun t => mkB F D mn t && decide (t < 840)) d0 : Nat) : Int) + 0)))), some (.int (zI (frs (mkB F D mn) d0))), some (.int (zI ((rowS (mkB F D mn) 0 d0).1))), some (.int (zI ((rowS (mkB F D mn) 0 d0).2))), some (.int (zI ((d0 : Int)))), some (.int (zI (1)))]) dX7_market_124 (by decide) rfl ?_
                      refine EV.iload (i := 9) dX7_market_126 rfl ?_
                      refine EV.ifeq (t := 135) dX7_market_128 (by decide) (by omega) (fun c128 => ?_) (fun c128 => ?_)
                      · skip
                        omega
                      · skip
                        refine EV.iconst dX7_market_131 ?_
                        refine EV.goto (t := 139) dX7_market_132 (by decide) ?_
                        refine EV.istore (i := 6) (lv' := [some (.ref m), some (.int (zI (D))), some (.int (zI (mn))), some (.int (zI (w))), some (.int (zI ((((cnt (fun t => mkB F D mn t && decide (t < 840)) d0 : Nat) : Int) + 0)))), some (.int (zI (frs (mkB F D mn) d0))), some (.int (zI (0))), some (.int (zI ((rowS (mkB F D mn) 0 d0).2))), some (.int (zI ((d0 : Int)))), some (.int (zI (1)))]) dX7_market_139 (by decide) rfl ?_
                        refine EV.iload (i := 6) dX7_market_141 rfl ?_
                        refine EV.iload (i := 7) dX7_market_143 rfl ?_
                        refine EV.icmp_le (t := 153) dX7_market_145 (by decide) (by omega) (fun c145 => ?_) (fun c145 => ?_)
                        · skip
                          refine EV.iload (i := 7) dX7_market_153 rfl ?_
                          refine EV.istore (i := 7) (lv' := [some (.ref m), some (.int (zI (D))), some (.int (zI (mn))), some (.int (zI (w))), some (.int (zI ((((cnt (fun t => mkB F D mn t && decide (t < 840)) d0 : Nat) : Int) + 0)))), some (.int (zI (frs (mkB F D mn) d0))), some (.int (zI (0))), some (.int (zI ((rowS (mkB F D mn) 0 d0).2))), some (.int (zI ((d0 : Int)))), some (.int (zI (1)))]) dX7_market_155 (by decide) rfl ?_
                          refine EV.iinc (i := 8) (lv' := [some (.ref m), some (.int (zI (D))), some (.int (zI (mn))), some (.int (zI (w))), some (.int (zI ((((cnt (fun t => mkB F D mn t && decide (t < 840)) d0 : Nat) : Int) + 0)))), some (.int (zI (frs (mkB F D mn) d0))), some (.int (zI (0))), some (.int (zI ((rowS (mkB F D mn) 0 d0).2))), some (.int (zI ((d0 : Int) + 1))), some (.int (zI (1)))]) dX7_market_157 rfl (by decide) rfl ?_
                          refine EV.goto (t := 47) dX7_market_160 (by decide) ?_
                          refine EV.drop 9 (lv' := [some (.ref m), some (.int (zI (D))), some (.int (zI (mn))), some (.int (zI (w))), some (.int (zI ((((cnt (fun t => mkB F D mn t && decide (t < 840)) d0 : Nat) : Int) + 0)))), some (.int (zI (frs (mkB F D mn) d0))), some (.int (zI (0))), some (.int (zI ((rowS (mkB F D mn) 0 d0).2))), some (.int (zI (((d0 : Int) + 1)))), none]) rfl ?_
                          exact ih47 (d0 + 1) _ _ _ _ _ (by omega) (by omega) (by rw [Int.add_zero]; exact cnt_n (f := (fun t => mkB F D mn t && decide (t < 840))) (by show (mkB F D mn d0 && decide (d0 < 840)) = false; rw [decide_eq_false (by omega), Bool.and_false])) (by rw [frs_s, if_neg (fun z => by have := z.1; omega)]) ((rowS_t hg0).1.symm) (((rowS_t hg0).2.trans (if_neg (by omega))).symm) (rfl)
                        · skip
                          omega
                    · skip
                      refine EV.iconst dX7_market_118 ?_
                      refine EV.goto (t := 123) dX7_market_119 (by decide) ?_
                      refine EV.iadd dX7_market_123 ?_
                      refine EV.istore (i := 4) (lv' := [some (.ref m), some (.int (zI (D))), some (.int (zI (mn))), some (.int (zI (w))), some (.int (zI ((((cnt (fun t => mkB F D mn t && decide (t < 840)) d0 : Nat) : Int) + 1)))), some (.int (zI (frs (mkB F D mn) d0))), some (.int (zI ((rowS (mkB F D mn) 0 d0).1))), some (.int (zI ((rowS (mkB F D mn) 0 d0).2))), some (.int (zI ((d0 : Int)))), some (.int (zI (1)))]) dX7_market_124 (by decide) rfl ?_
                      refine EV.iload (i := 9) dX7_market_126 rfl ?_
                      refine EV.ifeq (t := 135) dX7_market_128 (by decide) (by omega) (fun c128 => ?_) (fun c128 => ?_)
                      · skip
                        omega
                      · skip
                        refine EV.iconst dX7_market_131 ?_
                        refine EV.goto (t := 139) dX7_market_132 (by decide) ?_
                        refine EV.istore (i := 6) (lv' := [some (.ref m), some (.int (zI (D))), some (.int (zI (mn))), some (.int (zI (w))), some (.int (zI ((((cnt (fun t => mkB F D mn t && decide (t < 840)) d0 : Nat) : Int) + 1)))), some (.int (zI (frs (mkB F D mn) d0))), some (.int (zI (0))), some (.int (zI ((rowS (mkB F D mn) 0 d0).2))), some (.int (zI ((d0 : Int)))), some (.int (zI (1)))]) dX7_market_139 (by decide) rfl ?_
                        refine EV.iload (i := 6) dX7_market_141 rfl ?_
                        refine EV.iload (i := 7) dX7_market_143 rfl ?_
                        refine EV.icmp_le (t := 153) dX7_market_145 (by decide) (by omega) (fun c145 => ?_) (fun c145 => ?_)
                        · skip
                          refine EV.iload (i := 7) dX7_market_153 rfl ?_
                          refine EV.istore (i := 7) (lv' := [some (.ref m), some (.int (zI (D))), some (.int (zI (mn))), some (.int (zI (w))), some (.int (zI ((((cnt (fun t => mkB F D mn t && decide (t < 840)) d0 : Nat) : Int) + 1)))), some (.int (zI (frs (mkB F D mn) d0))), some (.int (zI (0))), some (.int (zI ((rowS (mkB F D mn) 0 d0).2))), some (.int (zI ((d0 : Int)))), some (.int (zI (1)))]) dX7_market_155 (by decide) rfl ?_
                          refine EV.iinc (i := 8) (lv' := [some (.ref m), some (.int (zI (D))), some (.int (zI (mn))), some (.int (zI (w))), some (.int (zI ((((cnt (fun t => mkB F D mn t && decide (t < 840)) d0 : Nat) : Int) + 1)))), some (.int (zI (frs (mkB F D mn) d0))), some (.int (zI (0))), some (.int (zI ((rowS (mkB F D mn) 0 d0).2))), some (.int (zI ((d0 : Int) + 1))), some (.int (zI (1)))]) dX7_market_157 rfl (by decide) rfl ?_
                          refine EV.goto (t := 47) dX7_market_160 (by decide) ?_
                          refine EV.drop 9 (lv' := [some (.ref m), some (.int (zI (D))), some (.int (zI (mn))), some (.int (zI (w))), some (.int (zI ((((cnt (fun t => mkB F D mn t && decide (t < 840)) d0 : Nat) : Int) + 1)))), some (.int (zI (frs (mkB F D mn) d0))), some (.int (zI (0))), some (.int (zI ((rowS (mkB F D mn) 0 d0).2))), some (.int (zI (((d0 : Int) + 1)))), none]) rfl ?_
                          exact ih47 (d0 + 1) _ _ _ _ _ (by omega) (by omega) (cnt_y (f := (fun t => mkB F D mn t && decide (t < 840))) (by show (mkB F D mn d0 && decide (d0 < 840)) = true; rw [hg, decide_eq_true (by omega)]; rfl)) (by rw [frs_s, if_neg (fun z => by have := z.1; omega)]) ((rowS_t hg0).1.symm) (((rowS_t hg0).2.trans (if_neg (by omega))).symm) (rfl)
                        · skip
                          omega
                · skip
                  refine EV.iload (i := 9) dX7_market_89 rfl ?_
                  refine EV.ifeq (t := 99) dX7_market_91 (by decide) (by omega) (fun c91 => ?_) (fun c91 => ?_)
                  · skip
                    omega
                  · skip
                    refine EV.iload (i := 8) dX7_market_94 rfl ?_
                    refine EV.goto (t := 101) dX7_market_96 (by decide) ?_
                    refine EV.istore (i := 5) (lv' := [some (.ref m), some (.int (zI (D))), some (.int (zI (mn))), some (.int (zI (w))), some (.int (zI (((cnt (fun t => mkB F D mn t && decide (t < 840)) d0 : Nat) : Int)))), some (.int (zI ((d0 : Int)))), some (.int (zI ((rowS (mkB F D mn) 0 d0).1))), some (.int (zI ((rowS (mkB F D mn) 0 d0).2))), some (.int (zI ((d0 : Int)))), some (.int (zI (1)))]) dX7_market_101 (by decide) rfl ?_
                    refine EV.iload (i := 4) dX7_market_103 rfl ?_
                    refine EV.iload (i := 9) dX7_market_105 rfl ?_
                    refine EV.ifeq (t := 122) dX7_market_107 (by decide) (by omega) (fun c107 => ?_) (fun c107 => ?_)
                    · skip
                      omega
                    · skip
                      refine EV.iload (i := 8) dX7_market_110 rfl ?_
                      refine EV.sipush dX7_market_112 (by decide) ?_
                      refine EV.icmp_ge (t := 122) dX7_market_115 (by decide) (by omega) (fun c115 => ?_) (fun c115 => ?_)
                      · skip
                        refine EV.iconst dX7_market_122 ?_
                        refine EV.iadd dX7_market_123 ?_
                        refine EV.istore (i := 4) (lv' := [some (.ref m), some (.int (zI (D))), some (.int (zI (mn))), some (.int (zI (w))), some (.int (zI ((((cnt (fun t => mkB F D mn t && decide (t < 840)) d0 : Nat) : Int) + 0)))), some (.int (zI ((d0 : Int)))), some (.int (zI ((rowS (mkB F D mn) 0 d0).1))), some (.int (zI ((rowS (mkB F D mn) 0 d0).2))), some (.int (zI ((d0 : Int)))), some (.int (zI (1)))]) dX7_market_124 (by decide) rfl ?_
                        refine EV.iload (i := 9) dX7_market_126 rfl ?_
                        refine EV.ifeq (t := 135) dX7_market_128 (by decide) (by omega) (fun c128 => ?_) (fun c128 => ?_)
                        · skip
                          omega
                        · skip
                          refine EV.iconst dX7_market_131 ?_
                          refine EV.goto (t := 139) dX7_market_132 (by decide) ?_
                          refine EV.istore (i := 6) (lv' := [some (.ref m), some (.int (zI (D))), some (.int (zI (mn))), some (.int (zI (w))), some (.int (zI ((((cnt (fun t => mkB F D mn t && decide (t < 840)) d0 : Nat) : Int) + 0)))), some (.int (zI ((d0 : Int)))), some (.int (zI (0))), some (.int (zI ((rowS (mkB F D mn) 0 d0).2))), some (.int (zI ((d0 : Int)))), some (.int (zI (1)))]) dX7_market_139 (by decide) rfl ?_
                          refine EV.iload (i := 6) dX7_market_141 rfl ?_
                          refine EV.iload (i := 7) dX7_market_143 rfl ?_
                          refine EV.icmp_le (t := 153) dX7_market_145 (by decide) (by omega) (fun c145 => ?_) (fun c145 => ?_)
                          · skip
                            refine EV.iload (i := 7) dX7_market_153 rfl ?_
                            refine EV.istore (i := 7) (lv' := [some (.ref m), some (.int (zI (D))), some (.int (zI (mn))), some (.int (zI (w))), some (.int (zI ((((cnt (fun t => mkB F D mn t && decide (t < 840)) d0 : Nat) : Int) + 0)))), some (.int (zI ((d0 : Int)))), some (.int (zI (0))), some (.int (zI ((rowS (mkB F D mn) 0 d0).2))), some (.int (zI ((d0 : Int)))), some (.int (zI (1)))]) dX7_market_155 (by decide) rfl ?_
                            refine EV.iinc (i := 8) (lv' := [some (.ref m), some (.int (zI (D))), some (.int (zI (mn))), some (.int (zI (w))), some (.int (zI ((((cnt (fun t => mkB F D mn t && decide (t < 840)) d0 : Nat) : Int) + 0)))), some (.int (zI ((d0 : Int)))), some (.int (zI (0))), some (.int (zI ((rowS (mkB F D mn) 0 d0).2))), some (.int (zI ((d0 : Int) + 1))), some (.int (zI (1)))]) dX7_market_157 rfl (by decide) rfl ?_
                            refine EV.goto (t := 47) dX7_market_160 (by decide) ?_
                            refine EV.drop 9 (lv' := [some (.ref m), some (.int (zI (D))), some (.int (zI (mn))), some (.int (zI (w))), some (.int (zI ((((cnt (fun t => mkB F D mn t && decide (t < 840)) d0 : Nat) : Int) + 0)))), some (.int (zI ((d0 : Int)))), some (.int (zI (0))), some (.int (zI ((rowS (mkB F D mn) 0 d0).2))), some (.int (zI (((d0 : Int) + 1)))), none]) rfl ?_
                            exact ih47 (d0 + 1) _ _ _ _ _ (by omega) (by omega) (by rw [Int.add_zero]; exact cnt_n (f := (fun t => mkB F D mn t && decide (t < 840))) (by show (mkB F D mn d0 && decide (d0 < 840)) = false; rw [decide_eq_false (by omega), Bool.and_false])) (by rw [frs_s, if_pos ⟨by omega, hg⟩]) ((rowS_t hg0).1.symm) (((rowS_t hg0).2.trans (if_neg (by omega))).symm) (rfl)
                          · skip
                            omega
                      · skip
                        refine EV.iconst dX7_market_118 ?_
                        refine EV.goto (t := 123) dX7_market_119 (by decide) ?_
                        refine EV.iadd dX7_market_123 ?_
                        refine EV.istore (i := 4) (lv' := [some (.ref m), some (.int (zI (D))), some (.int (zI (mn))), some (.int (zI (w))), some (.int (zI ((((cnt (fun t => mkB F D mn t && decide (t < 840)) d0 : Nat) : Int) + 1)))), some (.int (zI ((d0 : Int)))), some (.int (zI ((rowS (mkB F D mn) 0 d0).1))), some (.int (zI ((rowS (mkB F D mn) 0 d0).2))), some (.int (zI ((d0 : Int)))), some (.int (zI (1)))]) dX7_market_124 (by decide) rfl ?_
                        refine EV.iload (i := 9) dX7_market_126 rfl ?_
                        refine EV.ifeq (t := 135) dX7_market_128 (by decide) (by omega) (fun c128 => ?_) (fun c128 => ?_)
                        · skip
                          omega
                        · skip
                          refine EV.iconst dX7_market_131 ?_
                          refine EV.goto (t := 139) dX7_market_132 (by decide) ?_
                          refine EV.istore (i := 6) (lv' := [some (.ref m), some (.int (zI (D))), some (.int (zI (mn))), some (.int (zI (w))), some (.int (zI ((((cnt (fun t => mkB F D mn t && decide (t < 840)) d0 : Nat) : Int) + 1)))), some (.int (zI ((d0 : Int)))), some (.int (zI (0))), some (.int (zI ((rowS (mkB F D mn) 0 d0).2))), some (.int (zI ((d0 : Int)))), some (.int (zI (1)))]) dX7_market_139 (by decide) rfl ?_
                          refine EV.iload (i := 6) dX7_market_141 rfl ?_
                          refine EV.iload (i := 7) dX7_market_143 rfl ?_
                          refine EV.icmp_le (t := 153) dX7_market_145 (by decide) (by omega) (fun c145 => ?_) (fun c145 => ?_)
                          · skip
                            refine EV.iload (i := 7) dX7_market_153 rfl ?_
                            refine EV.istore (i := 7) (lv' := [some (.ref m), some (.int (zI (D))), some (.int (zI (mn))), some (.int (zI (w))), some (.int (zI ((((cnt (fun t => mkB F D mn t && decide (t < 840)) d0 : Nat) : Int) + 1)))), some (.int (zI ((d0 : Int)))), some (.int (zI (0))), some (.int (zI ((rowS (mkB F D mn) 0 d0).2))), some (.int (zI ((d0 : Int)))), some (.int (zI (1)))]) dX7_market_155 (by decide) rfl ?_
                            refine EV.iinc (i := 8) (lv' := [some (.ref m), some (.int (zI (D))), some (.int (zI (mn))), some (.int (zI (w))), some (.int (zI ((((cnt (fun t => mkB F D mn t && decide (t < 840)) d0 : Nat) : Int) + 1)))), some (.int (zI ((d0 : Int)))), some (.int (zI (0))), some (.int (zI ((rowS (mkB F D mn) 0 d0).2))), some (.int (zI ((d0 : Int) + 1))), some (.int (zI (1)))]) dX7_market_157 rfl (by decide) rfl ?_
                            refine EV.goto (t := 47) dX7_market_160 (by decide) ?_
                            refine EV.drop 9 (lv' := [some (.ref m), some (.int (zI (D))), some (.int (zI (mn))), some (.int (zI (w))), some (.int (zI ((((cnt (fun t => mkB F D mn t && decide (t < 840)) d0 : Nat) : Int) + 1)))), some (.int (zI ((d0 : Int)))), some (.int (zI (0))), some (.int (zI ((rowS (mkB F D mn) 0 d0).2))), some (.int (zI (((d0 : Int) + 1)))), none]) rfl ?_
                            exact ih47 (d0 + 1) _ _ _ _ _ (by omega) (by omega) (cnt_y (f := (fun t => mkB F D mn t && decide (t < 840))) (by show (mkB F D mn d0 && decide (d0 < 840)) = true; rw [hg, decide_eq_true (by omega)]; rfl)) (by rw [frs_s, if_pos ⟨by omega, hg⟩]) ((rowS_t hg0).1.symm) (((rowS_t hg0).2.trans (if_neg (by omega))).symm) (rfl)
                          · skip
                            omega
        exact L47 _ 0 _ _ _ _ _ (by omega) (Nat.lt_succ_self _) (rfl) (rfl) (rfl) (rfl) (rfl)
      · skip
        have c25r := of_nrg c25
        refine EV.bipush dX7_market_28 (by decide) ?_
        refine EV.iret rfl dX7_market_30 ?_
        exact rQ (by rw [marketR, if_pos c4, if_neg (by rw [c25]; simp)])
  · skip
    have c4r := of_nrg c4
    refine EV.iconst dX7_market_7 ?_
    refine EV.iret rfl dX7_market_8 ?_
    exact rQ (by rw [marketR, if_neg (by rw [c4]; decide)])
end
