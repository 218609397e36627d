/-- how far the search has come: counts down -/
def mz (n : Nat) (L : Nat → Int) : Nat → Nat
  | 0 => 0
  | w + 1 => mz n L w + (30 - L w).toNat * 33 ^ (n - w)
theorem mz_cg {n : Nat} {L M : Nat → Int} : ∀ {k : Nat}, (∀ u, u < k → L u = M u) → mz n L k = mz n M k
  | 0, _ => rfl
  | k + 1, h => by
    unfold mz
    rw [mz_cg (fun u hu => h u (by omega)), h k (by omega)]
theorem mz_le {n : Nat} {L : Nat → Int} (w : Nat) : mz n L w ≤ mz n L (w + 1) := Nat.le_add_right _ _
theorem mz_adv {n w : Nat} {L : Nat → Int} {y : Int} (hw : w < n) (h1 : L w < y) (h2 : y ≤ 30) : mz n (uI (uI L w y) (w + 1) (-1)) (w + 2) < mz n L (w + 1) := by
  have e0 : mz n (uI (uI L w y) (w + 1) (-1)) w = mz n L w := mz_cg (fun u hu => by rw [uI_n _ _ (by omega), uI_n _ _ (by omega)])
  show mz n (uI (uI L w y) (w + 1) (-1)) w + (30 - uI (uI L w y) (w + 1) (-1) w).toNat * 33 ^ (n - w) + (30 - uI (uI L w y) (w + 1) (-1) (w + 1)).toNat * 33 ^ (n - (w + 1)) < mz n L w + (30 - L w).toNat * 33 ^ (n - w)
  rw [e0, uI_s, uI_n _ _ (by omega), uI_s]
  obtain ⟨k, hk⟩ : ∃ k, n - w = k + 1 := ⟨n - w - 1, by omega⟩
  rw [hk, show n - (w + 1) = k by omega, Nat.pow_succ]
  have hp : 0 < 33 ^ k := Nat.pow_pos (by decide)
  have hq : (30 - L w).toNat ≥ (30 - y).toNat + 1 := by omega
  have hr := Nat.mul_le_mul_right (33 ^ k * 33) hq
  rw [Nat.succ_mul] at hr
  have h31 : (30 - (-1) : Int).toNat = 31 := rfl
  rw [h31]
  generalize (30 - y).toNat * (33 ^ k * 33) = a at hr ⊢
  generalize (30 - L w).toNat * (33 ^ k * 33) = b at hr ⊢
  generalize 33 ^ k = c at hr hp ⊢
  omega
/-- what holds ahead of each turn of the search; u is one more than the work -/
def CI (cn : Nat → Int → Bool) (dj : Nat → Nat → Bool) (n s : Nat) (L : Nat → Int) (u : Nat) (lf : Int) : Prop :=
  (u = 0 ∧ ∀ M, vld cn dj M n → skp M n ≤ s → False) ∨ ∃ w, u = w + 1 ∧ w ≤ n ∧ vld cn dj L w ∧ (-1 ≤ L w ∧ L w ≤ 30) ∧ (w = n → L w = -1) ∧ lf = (s : Int) - (skp L w : Int) - (if L w = 30 then 1 else 0) ∧ 0 ≤ lf ∧ (∀ M, vld cn dj M n → skp M n ≤ s → ¬ bef M L w) ∧ (w < n → ∀ M, vld cn dj M n → skp M n ≤ s → ¬ bef M (uI L w (L w + 1)) (w + 1))
theorem bef_u {M L : Nat → Int} {w : Nat} {y : Int} (h : bef M (uI L w y) (w + 1)) : (∃ v, v < w ∧ (∀ u, u < v → M u = L u) ∧ M v < L v) ∨ ((∀ u, u < w → M u = L u) ∧ M w < y) := by
  obtain ⟨v, h1, h2, h3⟩ := h
  by_cases e : v = w
  · subst e
    rw [uI_s] at h3
    exact Or.inr ⟨fun u hu => by rw [h2 u hu, uI_n _ _ (by omega)], h3⟩
  · rw [uI_n _ _ e] at h3
    exact Or.inl ⟨v, by omega, fun u hu => by rw [h2 u hu, uI_n _ _ (by omega)], h3⟩
theorem bef_u1 {M L : Nat → Int} {w : Nat} {y : Int} (h : ∃ v, v < w ∧ (∀ u, u < v → M u = L u) ∧ M v < L v) : bef M (uI L w y) (w + 1) := by
  obtain ⟨v, h1, h2, h3⟩ := h
  exact ⟨v, by omega, fun u hu => by rw [h2 u hu, uI_n _ _ (by omega)], by rw [uI_n _ _ (by omega)]; exact h3⟩
theorem bef_u2 {M L : Nat → Int} {w : Nat} {y : Int} (h : ∀ u, u < w → M u = L u) (h2 : M w < y) : bef M (uI L w y) (w + 1) :=
  ⟨w, by omega, fun u hu => by rw [h u hu, uI_n _ _ (by omega)], by rw [uI_s]; exact h2⟩
theorem CI_0 (cn : Nat → Int → Bool) (dj : Nat → Nat → Bool) (n s : Nat) (L : Nat → Int) : CI cn dj n s (uI L 0 (-1)) 1 (s : Int) := by
  refine Or.inr ⟨0, rfl, Nat.zero_le _, fun w hw => absurd hw (Nat.not_lt_zero _), by rw [uI_s]; omega, fun _ => uI_s _ _ _, ?_, by omega, fun M _ _ hb => by obtain ⟨v, hv, _⟩ := hb; exact absurd hv (Nat.not_lt_zero _), fun hn M hM _ hb => ?_⟩
  · rw [uI_s, if_neg (by omega)]
    show (s : Int) = (s : Int) - ((0 : Nat) : Int) - 0
    omega
  · rcases bef_u hb with ⟨v, hv, _⟩ | ⟨_, h⟩
    · exact absurd hv (Nat.not_lt_zero _)
    · rw [uI_s] at h
      have := (hM 0 hn).1.1
      omega
/-- those passed over do not fit -/
def CY' (cn : Nat → Int → Bool) (dj : Nat → Nat → Bool) (L : Nat → Int) (w : Nat) (y : Int) : Prop := ∀ d, L w < d → d < y → d < 30 → fitB cn dj L w d = false
theorem CI_nb {cn : Nat → Int → Bool} {dj : Nat → Nat → Bool} {n s w : Nat} {L : Nat → Int} {y : Int} (hw : w < n) (hy : y ≤ 30 ∨ y = L w + 1) (hc : CY' cn dj L w y)
    (h : ∀ M, vld cn dj M n → skp M n ≤ s → ¬ bef M (uI L w (L w + 1)) (w + 1)) : ∀ M, vld cn dj M n → skp M n ≤ s → ¬ bef M (uI L w y) (w + 1) := fun M hM hs hb => by
  rcases bef_u hb with h1 | ⟨h1, h2⟩
  · exact h M hM hs (bef_u1 h1)
  · by_cases e : M w < L w + 1
    · exact h M hM hs (bef_u2 h1 e)
    · obtain ⟨m1, m2⟩ := hM w hw
      have h30 : M w < 30 := by omega
      have := hc (M w) (by omega) h2 h30
      rw [← fitB_cg h1, m2 h30] at this
      exact absurd this (by decide)
theorem CI_adv {cn : Nat → Int → Bool} {dj : Nat → Nat → Bool} {n s w : Nat} {L : Nat → Int} {y lf : Int} (hw : w < n) (hv : vld cn dj L w) (hL : -1 ≤ L w) (hc : CY' cn dj L w y) (hy : L w < y) (hy30 : y ≤ 30) (hf : y < 30 → fitB cn dj L w y = true) (hlf : lf = (s : Int) - (skp L w : Int)) (hl : y = 30 → 0 < lf) (hl0 : 0 ≤ lf)
    (h : ∀ M, vld cn dj M n → skp M n ≤ s → ¬ bef M (uI L w (L w + 1)) (w + 1)) {lf' : Int} (hlf' : lf' = lf - (if y = 30 then 1 else 0)) : CI cn dj n s (uI (uI L w y) (w + 1) (-1)) (w + 2) lf' := by
  have ha : ∀ u, u < w → L u = uI (uI L w y) (w + 1) (-1) u := fun u hu => by rw [uI_n _ _ (by omega), uI_n _ _ (by omega)]
  have hw1 : uI (uI L w y) (w + 1) (-1) w = y := by rw [uI_n _ _ (by omega), uI_s]
  have hsk : skp (uI (uI L w y) (w + 1) (-1)) (w + 1) = skp L w + (if y = 30 then 1 else 0) := by rw [skp_s, skp_cg (fun u hu => (ha u hu).symm), hw1]
  refine Or.inr ⟨w + 1, rfl, hw, vld_s (vld_cg ha hv) (by rw [hw1]; omega) (by rw [hw1, ← fitB_cg ha]; exact hf), by rw [uI_s]; omega, fun _ => uI_s _ _ _, ?_, ?_, fun M hM hs hb => CI_nb hw (Or.inl hy30) hc h M hM hs (bef_cg (fun u hu => uI_n _ _ (by omega)) hb), fun hn M hM hs hb => ?_⟩
  · rw [hsk, uI_s, hlf', hlf]
    split <;> simp <;> omega
  · rw [hlf']
    split
    · have := hl (by assumption); omega
    · omega
  · rcases bef_u hb with ⟨v, h1, h2, h3⟩ | ⟨h1, h2⟩
    · refine CI_nb hw (Or.inl hy30) hc h M hM hs ⟨v, h1, fun u hu => ?_, ?_⟩
      · rw [h2 u hu, uI_n _ _ (by omega)]
      · rw [uI_n _ _ (by omega)] at h3; exact h3
    · rw [uI_s] at h2
      have := (hM (w + 1) hn).1.1
      omega
theorem CI_ret {cn : Nat → Int → Bool} {dj : Nat → Nat → Bool} {n s w : Nat} {L : Nat → Int} {y lf : Int} (hw : w < n) (hv : vld cn dj L w) (hL : -1 ≤ L w) (hc : CY' cn dj L w y) (hy : L w < y) (hyr : y ≤ 30 ∨ y = L w + 1) (hlf : lf = (s : Int) - (skp L w : Int)) (hl0 : 0 ≤ lf) (hq : y = 31 ∨ (y = 30 ∧ lf ≤ 0))
    (h : ∀ M, vld cn dj M n → skp M n ≤ s → ¬ bef M (uI L w (L w + 1)) (w + 1)) : CI cn dj n s (uI L w y) w lf := by
  have hnb := CI_nb hw hyr hc h
  have hno : ∀ M, vld cn dj M n → skp M n ≤ s → ¬ (∀ u, u < w → M u = L u) := fun M hM hs he => by
    have h1 := hnb M hM hs
    have h2 : ¬ M w < y := fun z => h1 (bef_u2 he z)
    have h3 := (hM w hw).1
    rcases hq with e | ⟨e, e2⟩
    · omega
    · have h4 := skp_mono (L := M) (n := n) (k := w + 1) hw
      rw [skp_s, skp_cg he, if_pos (by omega)] at h4
      omega
  cases w with
  | zero => exact Or.inl ⟨rfl, fun M hM hs => hno M hM hs (fun u hu => absurd hu (Nat.not_lt_zero _))⟩
  | succ w =>
    have ha : ∀ u, u < w + 1 → L u = uI L (w + 1) y u := fun u hu => by rw [uI_n _ _ (by omega)]
    have hvw := hv w (by omega)
    have hLw : uI L (w + 1) y w = L w := uI_n _ _ (by omega)
    refine Or.inr ⟨w, rfl, by omega, vld_le (by omega) (vld_cg ha hv), by rw [hLw]; omega, fun z => by omega, ?_, hl0, fun M hM hs hb => ?_, fun _ M hM hs hb => ?_⟩
    · rw [hLw, hlf, skp_s, skp_cg (fun u hu => (ha u (by omega)).symm)]
      split <;> simp <;> omega
    · obtain ⟨v, h1, h2, h3⟩ := hb
      exact hnb M hM hs (bef_u1 ⟨v, by omega, fun u hu => by rw [h2 u hu, ← ha u (by omega)], by rw [ha v (by omega)]; exact h3⟩)
    · rcases bef_u hb with ⟨v, h1, h2, h3⟩ | ⟨h1, h2⟩
      · exact hnb M hM hs (bef_u1 ⟨v, by omega, fun u hu => by rw [h2 u hu, ← ha u (by omega)], by rw [ha v (by omega)]; exact h3⟩)
      · rw [hLw] at h2
        by_cases e : M w < L w
        · exact hnb M hM hs (bef_u1 ⟨w, by omega, fun u hu => by rw [h1 u hu, ← ha u (by omega)], e⟩)
        · exact hno M hM hs (fun u hu => by
            by_cases e2 : u = w
            · rw [e2]; omega
            · rw [h1 u (by omega), ← ha u (by omega)])
theorem CY_s {cn : Nat → Int → Bool} {dj : Nat → Nat → Bool} {L : Nat → Int} {w : Nat} {y : Int} (hc : CY' cn dj L w y) (h : fitB cn dj L w y = false) : CY' cn dj L w (y + 1) := fun d h1 h2 h3 => by
  by_cases e : d = y
  · rw [e]; exact h
  · exact hc d h1 (by omega) h3
theorem uI_uI (g : Nat → Int) (k : Nat) (a b : Int) : uI (uI g k a) k b = uI g k b := by
  funext j
  unfold uI
  by_cases h : j = k <;> simp [h]
theorem fa_s {c b : Bool} {f : Nat → Bool} {v : Nat} (h : (c && alln f v) = true) (h2 : f v = b) : (c && alln f (v + 1)) = b := by
  rw [alln, ← Bool.and_assoc, h, Bool.true_and, h2]
theorem fa_0 {c : Bool} {f : Nat → Bool} {v w : Nat} (h : (c && alln f v) = false) (hw : v ≤ w) : (c && alln f w) = false := by
  cases hc : c with
  | false => rfl
  | true => rw [hc, Bool.true_and] at h; rw [alln_up h hw]; rfl
theorem and0 : ∀ a, a < 64 → ∀ b, b < 64 → ((zI ((a : Nat) : Int) &&& zI ((b : Nat) : Int) = 0) ↔ a &&& b = 0) := by decide +kernel
theorem CI_end {cn : Nat → Int → Bool} {dj : Nat → Nat → Bool} {n s : Nat} {L : Nat → Int} {lf : Int} (h : CI cn dj n s L (n + 1) lf) : vld cn dj L n ∧ skp L n ≤ s ∧ ∀ M, vld cn dj M n → skp M n ≤ s → ¬ bef M L n := by
  rcases h with ⟨h, _⟩ | ⟨w, e, h1, h2, h3, h3', h4, h5, h6, _⟩
  · omega
  · obtain rfl : w = n := by omega
    rw [if_neg (by rw [h3' rfl]; decide)] at h4
    exact ⟨h2, by omega, h6⟩
section
variable {G : GG} {l : Launch}
variable {h : Hp} {m : Nat} {A : Nat → Nat} {F : FK} {P : PL} {T : ST} {K : PD} {la im ik : Nat → Int}
set_option maxHeartbeats 4000000 in
set_option maxRecDepth 20000 in
theorem c_X7_fitsAhead (d : Nat) (hM : ModAt G h m A F P T K la im ik) (hW : WF F) (hP : WFP P) (w : Nat) (t : Int) (hw : w < P.1) (ht : 0 ≤ t ∧ t ≤ 9970) (hla : ∀ v, v < w → inR (la v)) (hlw : 0 ≤ la w ∧ la w ≤ 30) : CT G l mX7_fitsAhead (d + 4) 0 0 [.ref m, .int (zI ((w : Int))), .int (zI (t))] h (RQ h (bI (fitB (moC F P t) (moD P) la w (la w)))) := by
  refine CT.of (by decide) (Nat.le_of_ble_eq_true rfl) (List.forall_mem_cons.mpr ⟨rfl, List.forall_mem_cons.mpr ⟨rfl, List.forall_mem_cons.mpr ⟨rfl, fun _ h => absurd h List.not_mem_nil⟩⟩⟩) ?_
  refine EV.lvs (lv' := [some (.ref m), some (.int (zI ((w : Int)))), some (.int (zI (t))), none, none]) rfl ?_
  have ⟨hcm, hc0, hc1, hc2, hc3, hc4, hc5, hc6, hc7, hc8, hc9⟩ := hM
  have hth := hW.1
  have hP6 := hP.1
  refine EV.aload_n (i := 0) dX7_fitsAhead_0 rfl rfl ?_
  refine EV.iload_n (i := 1) dX7_fitsAhead_1 rfl rfl ?_
  refine EV.iload_n (i := 2) dX7_fitsAhead_2 rfl rfl ?_
  refine EV.aload_n (i := 0) dX7_fitsAhead_3 rfl rfl ?_
  refine EV.getf fl_X7_31 dX7_fitsAhead_4 hcm rfl ?_
  refine EV.iload_n (i := 1) dX7_fitsAhead_7 rfl rfl ?_
  refine EV.iald dX7_fitsAhead_8 hc7 (w) (rfl) (by omega) ?_
  refine EV.iadd dX7_fitsAhead_9 ?_
  refine EV.callVr (M' := mX7_canBe) (as := [.int (zI ((w : Int))), .int (zI ((t + la w)))]) (rest := []) ml_X7_100 im_X7_canBe se_X7_canBe rfl co_X7_canBe dX7_fitsAhead_10 hcm (c_X7_canBe (d + 0) hM hW w (t + la w) hP hw (by omega)) rfl rfl (Nat.le_of_ble_eq_true rfl) ?_
  refine EV.istore_n (i := 3) (lv' := [some (.ref m), some (.int (zI ((w : Int)))), some (.int (zI (t))), some (.int (zI (bI (ah F (P.2.2 w) (P.2.1 w) (t + la w))))), none]) dX7_fitsAhead_13 rfl (by decide) rfl ?_
  refine EV.iconst dX7_fitsAhead_14 ?_
  refine EV.istore (i := 4) (lv' := [some (.ref m), some (.int (zI ((w : Int)))), some (.int (zI (t))), some (.int (zI (bI (ah F (P.2.2 w) (P.2.1 w) (t + la w))))), some (.int (zI (0)))]) dX7_fitsAhead_15 (by decide) rfl ?_
  have L17 : ∀ (n17 : Nat) (v : Nat) (x3 x4 : Int), (v ≤ w) → w - v < n17 → x3 = bI ((moC F P t w (la w) && alln (fun u => !(decide (la u = la w)) || moD P u w) v)) → x4 = (v : Int) → EV G l mX7_fitsAhead (d + 4) (RQ h (bI (fitB (moC F P t) (moD P) la w (la w)))) 17 [some (.ref m), some (.int (zI ((w : Int)))), some (.int (zI (t))), some (.int (zI (x3))), some (.int (zI (x4)))] [] h 0 0 := by
    intro n17
    induction n17 with
    | zero => intro _ _ _ _ hm; exact absurd hm (Nat.not_lt_zero _)
    | succ n17 ih17 =>
      intro v x3 x4 hv hm17 e3 e4
      subst e3 e4
      refine EV.iload (i := 4) dX7_fitsAhead_17 rfl ?_
      refine EV.iload_n (i := 1) dX7_fitsAhead_19 rfl rfl ?_
      refine EV.icmp_ge (t := 72) dX7_fitsAhead_20 (by decide) (by omega) (fun c20 => ?_) (fun c20 => ?_)
      · skip
        obtain rfl : v = w := by omega
        refine EV.iload_n (i := 3) dX7_fitsAhead_72 rfl rfl ?_
        refine EV.zret rfl (nar_bI _) dX7_fitsAhead_73 ?_
        exact rQ rfl
      · skip
        refine EV.iload_n (i := 3) dX7_fitsAhead_23 rfl rfl ?_
        refine EV.ifeqB (t := 72) dX7_fitsAhead_24 (by decide) (fun c24 => ?_) (fun c24 => ?_)
        · skip
          refine EV.iload_n (i := 3) dX7_fitsAhead_72 rfl rfl ?_
          refine EV.zret rfl (nar_bI _) dX7_fitsAhead_73 ?_
          exact rQ (congrArg bI (c24.trans (fa_0 c24 (by omega)).symm))
        · skip
          have hlv := hla v (by omega)
          have hpv := (hP.2 v (by omega)).2
          have hpw := (hP.2 w (by omega)).2
          refine EV.aload_n (i := 0) dX7_fitsAhead_27 rfl rfl ?_
          refine EV.getf fl_X7_31 dX7_fitsAhead_28 hcm rfl ?_
          refine EV.iload (i := 4) dX7_fitsAhead_31 rfl ?_
          refine EV.iald dX7_fitsAhead_33 hc7 (v) (rfl) (by omega) ?_
          refine EV.aload_n (i := 0) dX7_fitsAhead_34 rfl rfl ?_
          refine EV.getf fl_X7_31 dX7_fitsAhead_35 hcm rfl ?_
          refine EV.iload_n (i := 1) dX7_fitsAhead_38 rfl rfl ?_
          refine EV.iald dX7_fitsAhead_39 hc7 (w) (rfl) (by omega) ?_
          refine EV.icmp_ne (t := 60) dX7_fitsAhead_40 (by decide) (by omega) (fun c40 => ?_) (fun c40 => ?_)
          · skip
            refine EV.iconst dX7_fitsAhead_60 ?_
            refine EV.goto (t := 65) dX7_fitsAhead_61 (by decide) ?_
            refine EV.top (y := zI (bI ((moC F P t w (la w) && alln (fun u => !(decide (la u = la w)) || moD P u w) (v + 1))))) (by rw [fa_s c24 (show (!(decide (la v = la w)) || moD P v w) = true by rw [decide_eq_false c40]; rfl)]; rfl) ?_
            refine EV.istore_n (i := 3) (lv' := [some (.ref m), some (.int (zI ((w : Int)))), some (.int (zI (t))), some (.int (zI (bI ((moC F P t w (la w) && alln (fun u => !(decide (la u = la w)) || moD P u w) (v + 1)))))), some (.int (zI ((v : Int))))]) dX7_fitsAhead_65 rfl (by decide) rfl ?_
            refine EV.iinc (i := 4) (lv' := [some (.ref m), some (.int (zI ((w : Int)))), some (.int (zI (t))), some (.int (zI (bI ((moC F P t w (la w) && alln (fun u => !(decide (la u = la w)) || moD P u w) (v + 1)))))), some (.int (zI ((v : Int) + 1)))]) dX7_fitsAhead_66 rfl (by decide) rfl ?_
            refine EV.goto (t := 17) dX7_fitsAhead_69 (by decide) ?_
            exact ih17 (v + 1) _ _ (by omega) (by omega) (by rfl) (by rfl)
          · skip
            refine EV.aload_n (i := 0) dX7_fitsAhead_43 rfl rfl ?_
            refine EV.getf fl_X7_22 dX7_fitsAhead_44 hcm rfl ?_
            refine EV.iload (i := 4) dX7_fitsAhead_47 rfl ?_
            refine EV.iald dX7_fitsAhead_49 hc4 (v) (rfl) (by omega) ?_
            refine EV.aload_n (i := 0) dX7_fitsAhead_50 rfl rfl ?_
            refine EV.getf fl_X7_22 dX7_fitsAhead_51 hcm rfl ?_
            refine EV.iload_n (i := 1) dX7_fitsAhead_54 rfl rfl ?_
            refine EV.iald dX7_fitsAhead_55 hc4 (w) (rfl) (by omega) ?_
            refine EV.iandW dX7_fitsAhead_56 ?_
            refine EV.ifneW (t := 64) dX7_fitsAhead_57 (by decide) (fun c57 => ?_) (fun c57 => ?_)
            · skip
              refine EV.iconst dX7_fitsAhead_64 ?_
              refine EV.top (y := zI (bI ((moC F P t w (la w) && alln (fun u => !(decide (la u = la w)) || moD P u w) (v + 1))))) (by rw [fa_s c24 (show (!(decide (la v = la w)) || moD P v w) = false by rw [show moD P v w = false from decide_eq_false (fun z => c57 ((and0 _ (by omega) _ (by omega)).mpr z)), decide_eq_true c40]; rfl)]; rfl) ?_
              refine EV.istore_n (i := 3) (lv' := [some (.ref m), some (.int (zI ((w : Int)))), some (.int (zI (t))), some (.int (zI (bI ((moC F P t w (la w) && alln (fun u => !(decide (la u = la w)) || moD P u w) (v + 1)))))), some (.int (zI ((v : Int))))]) dX7_fitsAhead_65 rfl (by decide) rfl ?_
              refine EV.iinc (i := 4) (lv' := [some (.ref m), some (.int (zI ((w : Int)))), some (.int (zI (t))), some (.int (zI (bI ((moC F P t w (la w) && alln (fun u => !(decide (la u = la w)) || moD P u w) (v + 1)))))), some (.int (zI ((v : Int) + 1)))]) dX7_fitsAhead_66 rfl (by decide) rfl ?_
              refine EV.goto (t := 17) dX7_fitsAhead_69 (by decide) ?_
              exact ih17 (v + 1) _ _ (by omega) (by omega) (by rfl) (by rfl)
            · skip
              refine EV.iconst dX7_fitsAhead_60 ?_
              refine EV.goto (t := 65) dX7_fitsAhead_61 (by decide) ?_
              refine EV.top (y := zI (bI ((moC F P t w (la w) && alln (fun u => !(decide (la u = la w)) || moD P u w) (v + 1))))) (by rw [fa_s c24 (show (!(decide (la v = la w)) || moD P v w) = true by rw [show moD P v w = true from decide_eq_true ((and0 _ (by omega) _ (by omega)).mp c57), Bool.or_true])]; rfl) ?_
              refine EV.istore_n (i := 3) (lv' := [some (.ref m), some (.int (zI ((w : Int)))), some (.int (zI (t))), some (.int (zI (bI ((moC F P t w (la w) && alln (fun u => !(decide (la u = la w)) || moD P u w) (v + 1)))))), some (.int (zI ((v : Int))))]) dX7_fitsAhead_65 rfl (by decide) rfl ?_
              refine EV.iinc (i := 4) (lv' := [some (.ref m), some (.int (zI ((w : Int)))), some (.int (zI (t))), some (.int (zI (bI ((moC F P t w (la w) && alln (fun u => !(decide (la u = la w)) || moD P u w) (v + 1)))))), some (.int (zI ((v : Int) + 1)))]) dX7_fitsAhead_66 rfl (by decide) rfl ?_
              refine EV.goto (t := 17) dX7_fitsAhead_69 (by decide) ?_
              exact ih17 (v + 1) _ _ (by omega) (by omega) (by rfl) (by rfl)
  exact L17 _ 0 _ _ (by omega) (Nat.lt_succ_self _) (by rw [alln, Bool.and_true]; rfl) (rfl)
end
section
variable {G : GG} {l : Launch}
variable {h : Hp} {A : Nat → Nat} {N : Nat} {F : FK} {P : PL} {T : ST} {K : PD} {la ma ik : Nat → Int} {Y : CY}
set_option maxHeartbeats 4000000 in
set_option maxRecDepth 20000 in
theorem c_X7_canMonth (d : Nat) (hA : inA A N) (hK : WFK K) (hW : WF F) (hP : WFP P) (hT : WFT T) (t : Int) (ht : 0 ≤ t ∧ t ≤ 9970) (s : Nat) (hs : s ≤ 6) : CT G l mX7_canMonth (d + 5) 0 0 [.ref (A 0), .int (zI (t)), .int (zI ((s : Int)))] (HP G h A N Y (F, P, T, K, la, ma, ik)) (fun o h' => ∃ (b : Bool) (la' : Nat → Int), o = some (.int (zI (bI b))) ∧ h' = HP G h A N Y (F, P, T, K, la', ma, ik) ∧ (b = true → vld (moC F P t) (moD P) la' P.1 ∧ skp la' P.1 ≤ s ∧ ∀ M, vld (moC F P t) (moD P) M P.1 → skp M P.1 ≤ s → ¬ bef M la' P.1) ∧ (b = false → ∀ M, vld (moC F P t) (moD P) M P.1 → skp M P.1 ≤ s → False)) := by
  refine CT.of (by decide) (Nat.le_of_ble_eq_true rfl) (List.forall_mem_cons.mpr ⟨rfl, List.forall_mem_cons.mpr ⟨rfl, List.forall_mem_cons.mpr ⟨rfl, fun _ h => absurd h List.not_mem_nil⟩⟩⟩) ?_
  refine EV.lvs (lv' := [some (.ref (A 0)), some (.int (zI (t))), some (.int (zI ((s : Int)))), none, none]) rfl ?_
  have g0 : (HP G h A N Y (F, P, T, K, la, ma, ik)) (A 0) = some (obj 7 [.int (zI ((F.1 : Int))), .ref (A 1), .ref (A 2), .ref (A 3), .int (zI ((P.1 : Int))), .ref (A 4), .ref (A 5), .int (zI ((T.1 : Int))), .ref (A 6), .int (zI ((K.1 : Int))), .ref (A 7), .ref (A 8), .ref (A 9), .ref (A 10)]) := hGet hA _ _ 0 (by decide)
  have g8 : (HP G h A N Y (F, P, T, K, la, ma, ik)) (A 8) = some (arI G 7 la) := hGet hA _ _ 8 (by decide)
  have hK6 := hK.1
  have hP6 := hP.1
  have hT6 := hT.1
  have hth := hW.1
  have hsf : ∀ q, q < 6 → F.1.testBit q = true → F.1.testBit q = true := fun _ _ z => z
  have hM : ModAt G (HP G h A N Y (F, P, T, K, la, ma, ik)) (A 0) (fun i => A (i + 1)) F P T K la ma ik := hMod hA
  refine EV.iconst dX7_canMonth_0 ?_
  refine EV.istore_n (i := 3) (lv' := [some (.ref (A 0)), some (.int (zI (t))), some (.int (zI ((s : Int)))), some (.int (zI (0))), none]) dX7_canMonth_1 rfl (by decide) rfl ?_
  refine EV.iload_n (i := 2) dX7_canMonth_2 rfl rfl ?_
  refine EV.istore (i := 4) (lv' := [some (.ref (A 0)), some (.int (zI (t))), some (.int (zI ((s : Int)))), some (.int (zI (0))), some (.int (zI ((s : Int))))]) dX7_canMonth_3 (by decide) rfl ?_
  refine EV.aload_n (i := 0) dX7_canMonth_5 rfl rfl ?_
  refine EV.getf fl_X7_31 dX7_canMonth_6 g0 rfl ?_
  refine EV.iconst dX7_canMonth_9 ?_
  refine EV.iconst dX7_canMonth_10 ?_
  refine EV.iast dX7_canMonth_11 g8 (0) (rfl) (by omega) ?_
  refine EV.hps (h' := HP G h A N Y (F, P, T, K, (uI la 0 (-1)), ma, ik)) (mla hA _) ?_
  have g0 : (HP G h A N Y (F, P, T, K, (uI la 0 (-1)), ma, ik)) (A 0) = some (obj 7 [.int (zI ((F.1 : Int))), .ref (A 1), .ref (A 2), .ref (A 3), .int (zI ((P.1 : Int))), .ref (A 4), .ref (A 5), .int (zI ((T.1 : Int))), .ref (A 6), .int (zI ((K.1 : Int))), .ref (A 7), .ref (A 8), .ref (A 9), .ref (A 10)]) := hGet hA _ _ 0 (by decide)
  have g8 : (HP G h A N Y (F, P, T, K, (uI la 0 (-1)), ma, ik)) (A 8) = some (arI G 7 (uI la 0 (-1))) := hGet hA _ _ 8 (by decide)
  have L12 : ∀ (n12 : Nat) (L : Nat → Int) (u : Nat) (lf : Int) (x3 : Int) (hh : Hp), (u ≤ 7) → (-10 ≤ lf ∧ lf ≤ 10) → (CI (moC F P t) (moD P) P.1 s L u lf) → 8 * mz P.1 L u + u < n12 → x3 = ((u : Int) - 1) → hh = HP G h A N Y (F, P, T, K, L, ma, ik) → EV G l mX7_canMonth (d + 5) (fun o h' => ∃ (b : Bool) (la' : Nat → Int), o = some (.int (zI (bI b))) ∧ h' = HP G h A N Y (F, P, T, K, la', ma, ik) ∧ (b = true → vld (moC F P t) (moD P) la' P.1 ∧ skp la' P.1 ≤ s ∧ ∀ M, vld (moC F P t) (moD P) M P.1 → skp M P.1 ≤ s → ¬ bef M la' P.1) ∧ (b = false → ∀ M, vld (moC F P t) (moD P) M P.1 → skp M P.1 ≤ s → False)) 12 [some (.ref (A 0)), some (.int (zI (t))), some (.int (zI ((s : Int)))), some (.int (zI (x3))), some (.int (zI (lf)))] [] hh 0 0 := by
    intro n12
    induction n12 with
    | zero => intro _ _ _ _ _ _ _ _ hm; exact absurd hm (Nat.not_lt_zero _)
    | succ n12 ih12 =>
      intro L u lf x3 hh hu hlf hI hm12 e3 eh
      subst e3 eh
      have g0 : (HP G h A N Y (F, P, T, K, L, ma, ik)) (A 0) = some (obj 7 [.int (zI ((F.1 : Int))), .ref (A 1), .ref (A 2), .ref (A 3), .int (zI ((P.1 : Int))), .ref (A 4), .ref (A 5), .int (zI ((T.1 : Int))), .ref (A 6), .int (zI ((K.1 : Int))), .ref (A 7), .ref (A 8), .ref (A 9), .ref (A 10)]) := hGet hA _ _ 0 (by decide)
      have g8 : (HP G h A N Y (F, P, T, K, L, ma, ik)) (A 8) = some (arI G 7 L) := hGet hA _ _ 8 (by decide)
      refine EV.iload_n (i := 3) dX7_canMonth_12 rfl rfl ?_
      refine EV.iflt (t := 155) dX7_canMonth_13 (by decide) (by omega) (fun c13 => ?_) (fun c13 => ?_)
      · skip
        obtain rfl : u = 0 := by omega
        refine EV.iload_n (i := 3) dX7_canMonth_155 rfl rfl ?_
        refine EV.aload_n (i := 0) dX7_canMonth_156 rfl rfl ?_
        refine EV.getf fl_X7_74 dX7_canMonth_157 g0 rfl ?_
        refine EV.icmp_ne (t := 167) dX7_canMonth_160 (by decide) (by omega) (fun c160 => ?_) (fun c160 => ?_)
        · skip
          refine EV.iconst dX7_canMonth_167 ?_
          refine EV.zret rfl (by decide) dX7_canMonth_168 ?_
          refine ⟨false, L, rfl, rfl, fun z => absurd z (by decide), fun _ M h1 h2 => ?_⟩
          rcases hI with ⟨_, h3⟩ | ⟨w, h3, _⟩
          exact h3 M h1 h2
          omega
        · skip
          omega
      · skip
        have hI2 := hI
        rcases hI with ⟨hI0, _⟩ | ⟨w, rfl, hwn, hvl, hLw, hLn, hlfe, hl0, hb0, hnb⟩
        exact absurd hI0 (by omega)
        refine EV.lvs (lv' := [some (.ref (A 0)), some (.int (zI (t))), some (.int (zI ((s : Int)))), some (.int (zI ((w : Int)))), some (.int (zI (lf)))]) (by rw [show (((w + 1 : Nat) : Int) - 1) = (w : Int) by omega]) ?_
        have hsk := skp_le L w
        refine EV.iload_n (i := 3) dX7_canMonth_16 rfl rfl ?_
        refine EV.aload_n (i := 0) dX7_canMonth_17 rfl rfl ?_
        refine EV.getf fl_X7_74 dX7_canMonth_18 g0 rfl ?_
        refine EV.icmp_ge (t := 155) dX7_canMonth_21 (by decide) (by omega) (fun c21 => ?_) (fun c21 => ?_)
        · skip
          have hwe : w = P.1 := by omega
          refine EV.iload_n (i := 3) dX7_canMonth_155 rfl rfl ?_
          refine EV.aload_n (i := 0) dX7_canMonth_156 rfl rfl ?_
          refine EV.getf fl_X7_74 dX7_canMonth_157 g0 rfl ?_
          refine EV.icmp_ne (t := 167) dX7_canMonth_160 (by decide) (by omega) (fun c160 => ?_) (fun c160 => ?_)
          · skip
            omega
          · skip
            refine EV.iconst dX7_canMonth_163 ?_
            refine EV.goto (t := 168) dX7_canMonth_164 (by decide) ?_
            refine EV.zret rfl (by decide) dX7_canMonth_168 ?_
            subst hwe
            exact ⟨true, L, rfl, rfl, fun _ => CI_end hI2, fun z => absurd z (by decide)⟩
        · skip
          refine EV.iload (i := 4) dX7_canMonth_24 rfl ?_
          refine EV.aload_n (i := 0) dX7_canMonth_26 rfl rfl ?_
          refine EV.getf fl_X7_31 dX7_canMonth_27 g0 rfl ?_
          refine EV.iload_n (i := 3) dX7_canMonth_30 rfl rfl ?_
          refine EV.iald dX7_canMonth_31 g8 (w) (rfl) (by omega) ?_
          refine EV.bipush dX7_canMonth_32 (by decide) ?_
          refine EV.icmp_ne (t := 41) dX7_canMonth_34 (by decide) (by omega) (fun c34 => ?_) (fun c34 => ?_)
          · skip
            have hl1 : lf + 0 = (s : Int) - (skp L w : Int) := by rw [hlfe, if_neg c34]; omega
            have hl2 : 0 ≤ (s : Int) - (skp L w : Int) := by omega
            refine EV.iconst dX7_canMonth_41 ?_
            refine EV.iadd dX7_canMonth_42 ?_
            refine EV.top (y := zI (((s : Int) - (skp L w : Int)))) (by rw [hl1]) ?_
            refine EV.istore (i := 4) (lv' := [some (.ref (A 0)), some (.int (zI (t))), some (.int (zI ((s : Int)))), some (.int (zI ((w : Int)))), some (.int (zI (((s : Int) - (skp L w : Int)))))]) dX7_canMonth_43 (by decide) rfl ?_
            refine EV.aload_n (i := 0) dX7_canMonth_45 rfl rfl ?_
            refine EV.getf fl_X7_31 dX7_canMonth_46 g0 rfl ?_
            refine EV.iload_n (i := 3) dX7_canMonth_49 rfl rfl ?_
            refine EV.dup2 dX7_canMonth_50 rfl rfl ?_
            refine EV.iald dX7_canMonth_51 g8 (w) (rfl) (by omega) ?_
            refine EV.iconst dX7_canMonth_52 ?_
            refine EV.iadd dX7_canMonth_53 ?_
            refine EV.iast dX7_canMonth_54 g8 (w) (rfl) (by omega) ?_
            refine EV.hps (h' := HP G h A N Y (F, P, T, K, (uI L w (L w + 1)), ma, ik)) (mla hA _) ?_
            have g0 : (HP G h A N Y (F, P, T, K, (uI L w (L w + 1)), ma, ik)) (A 0) = some (obj 7 [.int (zI ((F.1 : Int))), .ref (A 1), .ref (A 2), .ref (A 3), .int (zI ((P.1 : Int))), .ref (A 4), .ref (A 5), .int (zI ((T.1 : Int))), .ref (A 6), .int (zI ((K.1 : Int))), .ref (A 7), .ref (A 8), .ref (A 9), .ref (A 10)]) := hGet hA _ _ 0 (by decide)
            have g8 : (HP G h A N Y (F, P, T, K, (uI L w (L w + 1)), ma, ik)) (A 8) = some (arI G 7 (uI L w (L w + 1))) := hGet hA _ _ 8 (by decide)
            have L55 : ∀ (n55 : Nat) (y : Int) (hh : Hp), (L w < y) → (y ≤ 30 ∨ y = L w + 1) → (CY' (moC F P t) (moD P) L w y) → (31 - y).toNat < n55 → hh = HP G h A N Y (F, P, T, K, (uI L w y), ma, ik) → EV G l mX7_canMonth (d + 5) (fun o h' => ∃ (b : Bool) (la' : Nat → Int), o = some (.int (zI (bI b))) ∧ h' = HP G h A N Y (F, P, T, K, la', ma, ik) ∧ (b = true → vld (moC F P t) (moD P) la' P.1 ∧ skp la' P.1 ≤ s ∧ ∀ M, vld (moC F P t) (moD P) M P.1 → skp M P.1 ≤ s → ¬ bef M la' P.1) ∧ (b = false → ∀ M, vld (moC F P t) (moD P) M P.1 → skp M P.1 ≤ s → False)) 55 [some (.ref (A 0)), some (.int (zI (t))), some (.int (zI ((s : Int)))), some (.int (zI ((w : Int)))), some (.int (zI (((s : Int) - (skp L w : Int)))))] [] hh 0 0 := by
              intro n55
              induction n55 with
              | zero => intro _ _ _ _ _ hm; exact absurd hm (Nat.not_lt_zero _)
              | succ n55 ih55 =>
                intro y hh hy1 hy2 hc hm55 eh
                subst eh
                have g0 : (HP G h A N Y (F, P, T, K, (uI L w y), ma, ik)) (A 0) = some (obj 7 [.int (zI ((F.1 : Int))), .ref (A 1), .ref (A 2), .ref (A 3), .int (zI ((P.1 : Int))), .ref (A 4), .ref (A 5), .int (zI ((T.1 : Int))), .ref (A 6), .int (zI ((K.1 : Int))), .ref (A 7), .ref (A 8), .ref (A 9), .ref (A 10)]) := hGet hA _ _ 0 (by decide)
                have g8 : (HP G h A N Y (F, P, T, K, (uI L w y), ma, ik)) (A 8) = some (arI G 7 (uI L w y)) := hGet hA _ _ 8 (by decide)
                have hM : ModAt G (HP G h A N Y (F, P, T, K, (uI L w y), ma, ik)) (A 0) (fun i => A (i + 1)) F P T K (uI L w y) ma ik := hMod hA
                refine EV.aload_n (i := 0) dX7_canMonth_55 rfl rfl ?_
                refine EV.getf fl_X7_31 dX7_canMonth_56 g0 rfl ?_
                refine EV.iload_n (i := 3) dX7_canMonth_59 rfl rfl ?_
                refine EV.iald dX7_canMonth_60 g8 (w) (rfl) (by omega) ?_
                refine EV.top (y := zI (y)) (by rw [uI_s]) ?_
                refine EV.bipush dX7_canMonth_61 (by decide) ?_
                refine EV.icmp_ge (t := 88) dX7_canMonth_63 (by decide) (by omega) (fun c63 => ?_) (fun c63 => ?_)
                · skip
                  have hf : y < 30 → fitB (moC F P t) (moD P) L w y = true := fun z => absurd z (by omega)
                  refine EV.aload_n (i := 0) dX7_canMonth_88 rfl rfl ?_
                  refine EV.getf fl_X7_31 dX7_canMonth_89 g0 rfl ?_
                  refine EV.iload_n (i := 3) dX7_canMonth_92 rfl rfl ?_
                  refine EV.iald dX7_canMonth_93 g8 (w) (rfl) (by omega) ?_
                  refine EV.top (y := zI (y)) (by rw [uI_s]) ?_
                  refine EV.bipush dX7_canMonth_94 (by decide) ?_
                  refine EV.icmp_lt (t := 115) dX7_canMonth_96 (by decide) (by omega) (fun c96 => ?_) (fun c96 => ?_)
                  · skip
                    refine EV.iload (i := 4) dX7_canMonth_115 rfl ?_
                    refine EV.aload_n (i := 0) dX7_canMonth_117 rfl rfl ?_
                    refine EV.getf fl_X7_31 dX7_canMonth_118 g0 rfl ?_
                    refine EV.iload_n (i := 3) dX7_canMonth_121 rfl rfl ?_
                    refine EV.iald dX7_canMonth_122 g8 (w) (rfl) (by omega) ?_
                    refine EV.top (y := zI (y)) (by rw [uI_s]) ?_
                    refine EV.bipush dX7_canMonth_123 (by decide) ?_
                    refine EV.icmp_ne (t := 132) dX7_canMonth_125 (by decide) (by omega) (fun c125 => ?_) (fun c125 => ?_)
                    · skip
                      refine EV.iconst dX7_canMonth_132 ?_
                      refine EV.isub dX7_canMonth_133 ?_
                      refine EV.istore (i := 4) (lv' := [some (.ref (A 0)), some (.int (zI (t))), some (.int (zI ((s : Int)))), some (.int (zI ((w : Int)))), some (.int (zI ((((s : Int) - (skp L w : Int)) - 0))))]) dX7_canMonth_134 (by decide) rfl ?_
                      refine EV.iinc (i := 3) (lv' := [some (.ref (A 0)), some (.int (zI (t))), some (.int (zI ((s : Int)))), some (.int (zI ((w : Int) + 1))), some (.int (zI ((((s : Int) - (skp L w : Int)) - 0))))]) dX7_canMonth_136 rfl (by decide) rfl ?_
                      refine EV.aload_n (i := 0) dX7_canMonth_139 rfl rfl ?_
                      refine EV.getf fl_X7_31 dX7_canMonth_140 g0 rfl ?_
                      refine EV.iload_n (i := 3) dX7_canMonth_143 rfl rfl ?_
                      refine EV.iconst dX7_canMonth_144 ?_
                      refine EV.iast dX7_canMonth_145 g8 (w + 1) (by omega) (by omega) ?_
                      refine EV.hps (h' := HP G h A N Y (F, P, T, K, (uI (uI L w y) (w + 1) (-1)), ma, ik)) (mla hA _) ?_
                      have g0 : (HP G h A N Y (F, P, T, K, (uI (uI L w y) (w + 1) (-1)), ma, ik)) (A 0) = some (obj 7 [.int (zI ((F.1 : Int))), .ref (A 1), .ref (A 2), .ref (A 3), .int (zI ((P.1 : Int))), .ref (A 4), .ref (A 5), .int (zI ((T.1 : Int))), .ref (A 6), .int (zI ((K.1 : Int))), .ref (A 7), .ref (A 8), .ref (A 9), .ref (A 10)]) := hGet hA _ _ 0 (by decide)
                      have g8 : (HP G h A N Y (F, P, T, K, (uI (uI L w y) (w + 1) (-1)), ma, ik)) (A 8) = some (arI G 7 (uI (uI L w y) (w + 1) (-1))) := hGet hA _ _ 8 (by decide)
                      have hmz := mz_adv (n := P.1) (L := L) (w := w) (y := y) (by omega) hy1 (by omega)
                      refine EV.goto (t := 12) dX7_canMonth_146 (by decide) ?_
                      exact ih12 _ (w + 2) _ _ _ (by omega) (by omega) (CI_adv (by omega) hvl (by omega) hc hy1 (by omega) hf rfl (fun z => by omega) (by omega) (hnb (by omega)) (by rw [if_neg c125])) (by omega) (by omega) (rfl)
                    · skip
                      refine EV.iconst dX7_canMonth_128 ?_
                      refine EV.goto (t := 133) dX7_canMonth_129 (by decide) ?_
                      refine EV.isub dX7_canMonth_133 ?_
                      refine EV.istore (i := 4) (lv' := [some (.ref (A 0)), some (.int (zI (t))), some (.int (zI ((s : Int)))), some (.int (zI ((w : Int)))), some (.int (zI ((((s : Int) - (skp L w : Int)) - 1))))]) dX7_canMonth_134 (by decide) rfl ?_
                      refine EV.iinc (i := 3) (lv' := [some (.ref (A 0)), some (.int (zI (t))), some (.int (zI ((s : Int)))), some (.int (zI ((w : Int) + 1))), some (.int (zI ((((s : Int) - (skp L w : Int)) - 1))))]) dX7_canMonth_136 rfl (by decide) rfl ?_
                      refine EV.aload_n (i := 0) dX7_canMonth_139 rfl rfl ?_
                      refine EV.getf fl_X7_31 dX7_canMonth_140 g0 rfl ?_
                      refine EV.iload_n (i := 3) dX7_canMonth_143 rfl rfl ?_
                      refine EV.iconst dX7_canMonth_144 ?_
                      refine EV.iast dX7_canMonth_145 g8 (w + 1) (by omega) (by omega) ?_
                      refine EV.hps (h' := HP G h A N Y (F, P, T, K, (uI (uI L w y) (w + 1) (-1)), ma, ik)) (mla hA _) ?_
                      have g0 : (HP G h A N Y (F, P, T, K, (uI (uI L w y) (w + 1) (-1)), ma, ik)) (A 0) = some (obj 7 [.int (zI ((F.1 : Int))), .ref (A 1), .ref (A 2), .ref (A 3), .int (zI ((P.1 : Int))), .ref (A 4), .ref (A 5), .int (zI ((T.1 : Int))), .ref (A 6), .int (zI ((K.1 : Int))), .ref (A 7), .ref (A 8), .ref (A 9), .ref (A 10)]) := hGet hA _ _ 0 (by decide)
                      have g8 : (HP G h A N Y (F, P, T, K, (uI (uI L w y) (w + 1) (-1)), ma, ik)) (A 8) = some (arI G 7 (uI (uI L w y) (w + 1) (-1))) := hGet hA _ _ 8 (by decide)
                      have hmz := mz_adv (n := P.1) (L := L) (w := w) (y := y) (by omega) hy1 (by omega)
                      refine EV.goto (t := 12) dX7_canMonth_146 (by decide) ?_
                      exact ih12 _ (w + 2) _ _ _ (by omega) (by omega) (CI_adv (by omega) hvl (by omega) hc hy1 (by omega) hf rfl (fun z => by omega) (by omega) (hnb (by omega)) (by rw [if_pos c125])) (by omega) (by omega) (rfl)
                  · skip
                    refine EV.aload_n (i := 0) dX7_canMonth_99 rfl rfl ?_
                    refine EV.getf fl_X7_31 dX7_canMonth_100 g0 rfl ?_
                    refine EV.iload_n (i := 3) dX7_canMonth_103 rfl rfl ?_
                    refine EV.iald dX7_canMonth_104 g8 (w) (rfl) (by omega) ?_
                    refine EV.top (y := zI (y)) (by rw [uI_s]) ?_
                    refine EV.bipush dX7_canMonth_105 (by decide) ?_
                    refine EV.icmp_ne (t := 149) dX7_canMonth_107 (by decide) (by omega) (fun c107 => ?_) (fun c107 => ?_)
                    · skip
                      have hmz2 : mz P.1 (uI L w y) w ≤ mz P.1 L (w + 1) := by rw [mz_cg (M := L) (fun u hu => uI_n _ _ (by omega))]; exact mz_le w
                      refine EV.iinc (i := 3) (lv' := [some (.ref (A 0)), some (.int (zI (t))), some (.int (zI ((s : Int)))), some (.int (zI ((w : Int) + (-1)))), some (.int (zI (((s : Int) - (skp L w : Int)))))]) dX7_canMonth_149 rfl (by decide) rfl ?_
                      refine EV.goto (t := 12) dX7_canMonth_152 (by decide) ?_
                      exact ih12 _ w _ _ _ (by omega) (by omega) (CI_ret (by omega) hvl (by omega) hc hy1 hy2 rfl (by omega) (by omega) (hnb (by omega))) (by omega) (by omega) (rfl)
                    · skip
                      refine EV.iload (i := 4) dX7_canMonth_110 rfl ?_
                      refine EV.ifle (t := 149) dX7_canMonth_112 (by decide) (by omega) (fun c112 => ?_) (fun c112 => ?_)
                      · skip
                        have hmz2 : mz P.1 (uI L w y) w ≤ mz P.1 L (w + 1) := by rw [mz_cg (M := L) (fun u hu => uI_n _ _ (by omega))]; exact mz_le w
                        refine EV.iinc (i := 3) (lv' := [some (.ref (A 0)), some (.int (zI (t))), some (.int (zI ((s : Int)))), some (.int (zI ((w : Int) + (-1)))), some (.int (zI (((s : Int) - (skp L w : Int)))))]) dX7_canMonth_149 rfl (by decide) rfl ?_
                        refine EV.goto (t := 12) dX7_canMonth_152 (by decide) ?_
                        exact ih12 _ w _ _ _ (by omega) (by omega) (CI_ret (by omega) hvl (by omega) hc hy1 hy2 rfl (by omega) (by omega) (hnb (by omega))) (by omega) (by omega) (rfl)
                      · skip
                        refine EV.iload (i := 4) dX7_canMonth_115 rfl ?_
                        refine EV.aload_n (i := 0) dX7_canMonth_117 rfl rfl ?_
                        refine EV.getf fl_X7_31 dX7_canMonth_118 g0 rfl ?_
                        refine EV.iload_n (i := 3) dX7_canMonth_121 rfl rfl ?_
                        refine EV.iald dX7_canMonth_122 g8 (w) (rfl) (by omega) ?_
                        refine EV.top (y := zI (y)) (by rw [uI_s]) ?_
                        refine EV.bipush dX7_canMonth_123 (by decide) ?_
                        refine EV.icmp_ne (t := 132) dX7_canMonth_125 (by decide) (by omega) (fun c125 => ?_) (fun c125 => ?_)
                        · skip
                          refine EV.iconst dX7_canMonth_132 ?_
                          refine EV.isub dX7_canMonth_133 ?_
                          refine EV.istore (i := 4) (lv' := [some (.ref (A 0)), some (.int (zI (t))), some (.int (zI ((s : Int)))), some (.int (zI ((w : Int)))), some (.int (zI ((((s : Int) - (skp L w : Int)) - 0))))]) dX7_canMonth_134 (by decide) rfl ?_
                          refine EV.iinc (i := 3) (lv' := [some (.ref (A 0)), some (.int (zI (t))), some (.int (zI ((s : Int)))), some (.int (zI ((w : Int) + 1))), some (.int (zI ((((s : Int) - (skp L w : Int)) - 0))))]) dX7_canMonth_136 rfl (by decide) rfl ?_
                          refine EV.aload_n (i := 0) dX7_canMonth_139 rfl rfl ?_
                          refine EV.getf fl_X7_31 dX7_canMonth_140 g0 rfl ?_
                          refine EV.iload_n (i := 3) dX7_canMonth_143 rfl rfl ?_
                          refine EV.iconst dX7_canMonth_144 ?_
                          refine EV.iast dX7_canMonth_145 g8 (w + 1) (by omega) (by omega) ?_
                          refine EV.hps (h' := HP G h A N Y (F, P, T, K, (uI (uI L w y) (w + 1) (-1)), ma, ik)) (mla hA _) ?_
                          have g0 : (HP G h A N Y (F, P, T, K, (uI (uI L w y) (w + 1) (-1)), ma, ik)) (A 0) = some (obj 7 [.int (zI ((F.1 : Int))), .ref (A 1), .ref (A 2), .ref (A 3), .int (zI ((P.1 : Int))), .ref (A 4), .ref (A 5), .int (zI ((T.1 : Int))), .ref (A 6), .int (zI ((K.1 : Int))), .ref (A 7), .ref (A 8), .ref (A 9), .ref (A 10)]) := hGet hA _ _ 0 (by decide)
                          have g8 : (HP G h A N Y (F, P, T, K, (uI (uI L w y) (w + 1) (-1)), ma, ik)) (A 8) = some (arI G 7 (uI (uI L w y) (w + 1) (-1))) := hGet hA _ _ 8 (by decide)
                          have hmz := mz_adv (n := P.1) (L := L) (w := w) (y := y) (by omega) hy1 (by omega)
                          refine EV.goto (t := 12) dX7_canMonth_146 (by decide) ?_
                          exact ih12 _ (w + 2) _ _ _ (by omega) (by omega) (CI_adv (by omega) hvl (by omega) hc hy1 (by omega) hf rfl (fun z => by omega) (by omega) (hnb (by omega)) (by rw [if_neg c125])) (by omega) (by omega) (rfl)
                        · skip
                          refine EV.iconst dX7_canMonth_128 ?_
                          refine EV.goto (t := 133) dX7_canMonth_129 (by decide) ?_
                          refine EV.isub dX7_canMonth_133 ?_
                          refine EV.istore (i := 4) (lv' := [some (.ref (A 0)), some (.int (zI (t))), some (.int (zI ((s : Int)))), some (.int (zI ((w : Int)))), some (.int (zI ((((s : Int) - (skp L w : Int)) - 1))))]) dX7_canMonth_134 (by decide) rfl ?_
                          refine EV.iinc (i := 3) (lv' := [some (.ref (A 0)), some (.int (zI (t))), some (.int (zI ((s : Int)))), some (.int (zI ((w : Int) + 1))), some (.int (zI ((((s : Int) - (skp L w : Int)) - 1))))]) dX7_canMonth_136 rfl (by decide) rfl ?_
                          refine EV.aload_n (i := 0) dX7_canMonth_139 rfl rfl ?_
                          refine EV.getf fl_X7_31 dX7_canMonth_140 g0 rfl ?_
                          refine EV.iload_n (i := 3) dX7_canMonth_143 rfl rfl ?_
                          refine EV.iconst dX7_canMonth_144 ?_
                          refine EV.iast dX7_canMonth_145 g8 (w + 1) (by omega) (by omega) ?_
                          refine EV.hps (h' := HP G h A N Y (F, P, T, K, (uI (uI L w y) (w + 1) (-1)), ma, ik)) (mla hA _) ?_
                          have g0 : (HP G h A N Y (F, P, T, K, (uI (uI L w y) (w + 1) (-1)), ma, ik)) (A 0) = some (obj 7 [.int (zI ((F.1 : Int))), .ref (A 1), .ref (A 2), .ref (A 3), .int (zI ((P.1 : Int))), .ref (A 4), .ref (A 5), .int (zI ((T.1 : Int))), .ref (A 6), .int (zI ((K.1 : Int))), .ref (A 7), .ref (A 8), .ref (A 9), .ref (A 10)]) := hGet hA _ _ 0 (by decide)
                          have g8 : (HP G h A N Y (F, P, T, K, (uI (uI L w y) (w + 1) (-1)), ma, ik)) (A 8) = some (arI G 7 (uI (uI L w y) (w + 1) (-1))) := hGet hA _ _ 8 (by decide)
                          have hmz := mz_adv (n := P.1) (L := L) (w := w) (y := y) (by omega) hy1 (by omega)
                          refine EV.goto (t := 12) dX7_canMonth_146 (by decide) ?_
                          exact ih12 _ (w + 2) _ _ _ (by omega) (by omega) (CI_adv (by omega) hvl (by omega) hc hy1 (by omega) hf rfl (fun z => by omega) (by omega) (hnb (by omega)) (by rw [if_pos c125])) (by omega) (by omega) (rfl)
                · skip
                  refine EV.aload_n (i := 0) dX7_canMonth_66 rfl rfl ?_
                  refine EV.iload_n (i := 3) dX7_canMonth_67 rfl rfl ?_
                  refine EV.iload_n (i := 1) dX7_canMonth_68 rfl rfl ?_
                  refine EV.callVr (M' := mX7_fitsAhead) (as := [.int (zI ((w : Int))), .int (zI (t))]) (rest := []) ml_X7_103 im_X7_fitsAhead se_X7_fitsAhead rfl co_X7_fitsAhead dX7_canMonth_69 g0 (c_X7_fitsAhead (d + 0) hM hW hP w t (by omega) ht (fun v hv => by rw [uI_n _ _ (by omega)]; have := (hvl v hv).1; exact ⟨by omega, by omega⟩) (by rw [uI_s]; omega)) rfl rfl (Nat.le_of_ble_eq_true rfl) ?_
                  refine EV.top (y := zI (bI (fitB (moC F P t) (moD P) L w y))) (by rw [uI_s, fitB_cg (L := uI L w y) (M := L) (fun u hu => uI_n _ _ (by omega))]) ?_
                  refine EV.ifneB (t := 88) dX7_canMonth_72 (by decide) (fun c72 => ?_) (fun c72 => ?_)
                  · skip
                    have hf : y < 30 → fitB (moC F P t) (moD P) L w y = true := fun _ => c72
                    refine EV.aload_n (i := 0) dX7_canMonth_88 rfl rfl ?_
                    refine EV.getf fl_X7_31 dX7_canMonth_89 g0 rfl ?_
                    refine EV.iload_n (i := 3) dX7_canMonth_92 rfl rfl ?_
                    refine EV.iald dX7_canMonth_93 g8 (w) (rfl) (by omega) ?_
                    refine EV.top (y := zI (y)) (by rw [uI_s]) ?_
                    refine EV.bipush dX7_canMonth_94 (by decide) ?_
                    refine EV.icmp_lt (t := 115) dX7_canMonth_96 (by decide) (by omega) (fun c96 => ?_) (fun c96 => ?_)
                    · skip
                      refine EV.iload (i := 4) dX7_canMonth_115 rfl ?_
                      refine EV.aload_n (i := 0) dX7_canMonth_117 rfl rfl ?_
                      refine EV.getf fl_X7_31 dX7_canMonth_118 g0 rfl ?_
                      refine EV.iload_n (i := 3) dX7_canMonth_121 rfl rfl ?_
                      refine EV.iald dX7_canMonth_122 g8 (w) (rfl) (by omega) ?_
                      refine EV.top (y := zI (y)) (by rw [uI_s]) ?_
                      refine EV.bipush dX7_canMonth_123 (by decide) ?_
                      refine EV.icmp_ne (t := 132) dX7_canMonth_125 (by decide) (by omega) (fun c125 => ?_) (fun c125 => ?_)
                      · skip
                        refine EV.iconst dX7_canMonth_132 ?_
                        refine EV.isub dX7_canMonth_133 ?_
                        refine EV.istore (i := 4) (lv' := [some (.ref (A 0)), some (.int (zI (t))), some (.int (zI ((s : Int)))), some (.int (zI ((w : Int)))), some (.int (zI ((((s : Int) - (skp L w : Int)) - 0))))]) dX7_canMonth_134 (by decide) rfl ?_
                        refine EV.iinc (i := 3) (lv' := [some (.ref (A 0)), some (.int (zI (t))), some (.int (zI ((s : Int)))), some (.int (zI ((w : Int) + 1))), some (.int (zI ((((s : Int) - (skp L w : Int)) - 0))))]) dX7_canMonth_136 rfl (by decide) rfl ?_
                        refine EV.aload_n (i := 0) dX7_canMonth_139 rfl rfl ?_
                        refine EV.getf fl_X7_31 dX7_canMonth_140 g0 rfl ?_
                        refine EV.iload_n (i := 3) dX7_canMonth_143 rfl rfl ?_
                        refine EV.iconst dX7_canMonth_144 ?_
                        refine EV.iast dX7_canMonth_145 g8 (w + 1) (by omega) (by omega) ?_
                        refine EV.hps (h' := HP G h A N Y (F, P, T, K, (uI (uI L w y) (w + 1) (-1)), ma, ik)) (mla hA _) ?_
                        have g0 : (HP G h A N Y (F, P, T, K, (uI (uI L w y) (w + 1) (-1)), ma, ik)) (A 0) = some (obj 7 [.int (zI ((F.1 : Int))), .ref (A 1), .ref (A 2), .ref (A 3), .int (zI ((P.1 : Int))), .ref (A 4), .ref (A 5), .int (zI ((T.1 : Int))), .ref (A 6), .int (zI ((K.1 : Int))), .ref (A 7), .ref (A 8), .ref (A 9), .ref (A 10)]) := hGet hA _ _ 0 (by decide)
                        have g8 : (HP G h A N Y (F, P, T, K, (uI (uI L w y) (w + 1) (-1)), ma, ik)) (A 8) = some (arI G 7 (uI (uI L w y) (w + 1) (-1))) := hGet hA _ _ 8 (by decide)
                        have hmz := mz_adv (n := P.1) (L := L) (w := w) (y := y) (by omega) hy1 (by omega)
                        refine EV.goto (t := 12) dX7_canMonth_146 (by decide) ?_
                        exact ih12 _ (w + 2) _ _ _ (by omega) (by omega) (CI_adv (by omega) hvl (by omega) hc hy1 (by omega) hf rfl (fun z => by omega) (by omega) (hnb (by omega)) (by rw [if_neg c125])) (by omega) (by omega) (rfl)
                      · skip
                        refine EV.iconst dX7_canMonth_128 ?_
                        refine EV.goto (t := 133) dX7_canMonth_129 (by decide) ?_
                        refine EV.isub dX7_canMonth_133 ?_
                        refine EV.istore (i := 4) (lv' := [some (.ref (A 0)), some (.int (zI (t))), some (.int (zI ((s : Int)))), some (.int (zI ((w : Int)))), some (.int (zI ((((s : Int) - (skp L w : Int)) - 1))))]) dX7_canMonth_134 (by decide) rfl ?_
                        refine EV.iinc (i := 3) (lv' := [some (.ref (A 0)), some (.int (zI (t))), some (.int (zI ((s : Int)))), some (.int (zI ((w : Int) + 1))), some (.int (zI ((((s : Int) - (skp L w : Int)) - 1))))]) dX7_canMonth_136 rfl (by decide) rfl ?_
                        refine EV.aload_n (i := 0) dX7_canMonth_139 rfl rfl ?_
                        refine EV.getf fl_X7_31 dX7_canMonth_140 g0 rfl ?_
                        refine EV.iload_n (i := 3) dX7_canMonth_143 rfl rfl ?_
                        refine EV.iconst dX7_canMonth_144 ?_
                        refine EV.iast dX7_canMonth_145 g8 (w + 1) (by omega) (by omega) ?_
                        refine EV.hps (h' := HP G h A N Y (F, P, T, K, (uI (uI L w y) (w + 1) (-1)), ma, ik)) (mla hA _) ?_
                        have g0 : (HP G h A N Y (F, P, T, K, (uI (uI L w y) (w + 1) (-1)), ma, ik)) (A 0) = some (obj 7 [.int (zI ((F.1 : Int))), .ref (A 1), .ref (A 2), .ref (A 3), .int (zI ((P.1 : Int))), .ref (A 4), .ref (A 5), .int (zI ((T.1 : Int))), .ref (A 6), .int (zI ((K.1 : Int))), .ref (A 7), .ref (A 8), .ref (A 9), .ref (A 10)]) := hGet hA _ _ 0 (by decide)
                        have g8 : (HP G h A N Y (F, P, T, K, (uI (uI L w y) (w + 1) (-1)), ma, ik)) (A 8) = some (arI G 7 (uI (uI L w y) (w + 1) (-1))) := hGet hA _ _ 8 (by decide)
                        have hmz := mz_adv (n := P.1) (L := L) (w := w) (y := y) (by omega) hy1 (by omega)
                        refine EV.goto (t := 12) dX7_canMonth_146 (by decide) ?_
                        exact ih12 _ (w + 2) _ _ _ (by omega) (by omega) (CI_adv (by omega) hvl (by omega) hc hy1 (by omega) hf rfl (fun z => by omega) (by omega) (hnb (by omega)) (by rw [if_pos c125])) (by omega) (by omega) (rfl)
                    · skip
                      refine EV.aload_n (i := 0) dX7_canMonth_99 rfl rfl ?_
                      refine EV.getf fl_X7_31 dX7_canMonth_100 g0 rfl ?_
                      refine EV.iload_n (i := 3) dX7_canMonth_103 rfl rfl ?_
                      refine EV.iald dX7_canMonth_104 g8 (w) (rfl) (by omega) ?_
                      refine EV.top (y := zI (y)) (by rw [uI_s]) ?_
                      refine EV.bipush dX7_canMonth_105 (by decide) ?_
                      refine EV.icmp_ne (t := 149) dX7_canMonth_107 (by decide) (by omega) (fun c107 => ?_) (fun c107 => ?_)
                      · skip
                        have hmz2 : mz P.1 (uI L w y) w ≤ mz P.1 L (w + 1) := by rw [mz_cg (M := L) (fun u hu => uI_n _ _ (by omega))]; exact mz_le w
                        refine EV.iinc (i := 3) (lv' := [some (.ref (A 0)), some (.int (zI (t))), some (.int (zI ((s : Int)))), some (.int (zI ((w : Int) + (-1)))), some (.int (zI (((s : Int) - (skp L w : Int)))))]) dX7_canMonth_149 rfl (by decide) rfl ?_
                        refine EV.goto (t := 12) dX7_canMonth_152 (by decide) ?_
                        exact ih12 _ w _ _ _ (by omega) (by omega) (CI_ret (by omega) hvl (by omega) hc hy1 hy2 rfl (by omega) (by omega) (hnb (by omega))) (by omega) (by omega) (rfl)
                      · skip
                        refine EV.iload (i := 4) dX7_canMonth_110 rfl ?_
                        refine EV.ifle (t := 149) dX7_canMonth_112 (by decide) (by omega) (fun c112 => ?_) (fun c112 => ?_)
                        · skip
                          have hmz2 : mz P.1 (uI L w y) w ≤ mz P.1 L (w + 1) := by rw [mz_cg (M := L) (fun u hu => uI_n _ _ (by omega))]; exact mz_le w
                          refine EV.iinc (i := 3) (lv' := [some (.ref (A 0)), some (.int (zI (t))), some (.int (zI ((s : Int)))), some (.int (zI ((w : Int) + (-1)))), some (.int (zI (((s : Int) - (skp L w : Int)))))]) dX7_canMonth_149 rfl (by decide) rfl ?_
                          refine EV.goto (t := 12) dX7_canMonth_152 (by decide) ?_
                          exact ih12 _ w _ _ _ (by omega) (by omega) (CI_ret (by omega) hvl (by omega) hc hy1 hy2 rfl (by omega) (by omega) (hnb (by omega))) (by omega) (by omega) (rfl)
                        · skip
                          refine EV.iload (i := 4) dX7_canMonth_115 rfl ?_
                          refine EV.aload_n (i := 0) dX7_canMonth_117 rfl rfl ?_
                          refine EV.getf fl_X7_31 dX7_canMonth_118 g0 rfl ?_
                          refine EV.iload_n (i := 3) dX7_canMonth_121 rfl rfl ?_
                          refine EV.iald dX7_canMonth_122 g8 (w) (rfl) (by omega) ?_
                          refine EV.top (y := zI (y)) (by rw [uI_s]) ?_
                          refine EV.bipush dX7_canMonth_123 (by decide) ?_
                          refine EV.icmp_ne (t := 132) dX7_canMonth_125 (by decide) (by omega) (fun c125 => ?_) (fun c125 => ?_)
                          · skip
                            refine EV.iconst dX7_canMonth_132 ?_
                            refine EV.isub dX7_canMonth_133 ?_
                            refine EV.istore (i := 4) (lv' := [some (.ref (A 0)), some (.int (zI (t))), some (.int (zI ((s : Int)))), some (.int (zI ((w : Int)))), some (.int (zI ((((s : Int) - (skp L w : Int)) - 0))))]) dX7_canMonth_134 (by decide) rfl ?_
                            refine EV.iinc (i := 3) (lv' := [some (.ref (A 0)), some (.int (zI (t))), some (.int (zI ((s : Int)))), some (.int (zI ((w : Int) + 1))), some (.int (zI ((((s : Int) - (skp L w : Int)) - 0))))]) dX7_canMonth_136 rfl (by decide) rfl ?_
                            refine EV.aload_n (i := 0) dX7_canMonth_139 rfl rfl ?_
                            refine EV.getf fl_X7_31 dX7_canMonth_140 g0 rfl ?_
                            refine EV.iload_n (i := 3) dX7_canMonth_143 rfl rfl ?_
                            refine EV.iconst dX7_canMonth_144 ?_
                            refine EV.iast dX7_canMonth_145 g8 (w + 1) (by omega) (by omega) ?_
                            refine EV.hps (h' := HP G h A N Y (F, P, T, K, (uI (uI L w y) (w + 1) (-1)), ma, ik)) (mla hA _) ?_
                            have g0 : (HP G h A N Y (F, P, T, K, (uI (uI L w y) (w + 1) (-1)), ma, ik)) (A 0) = some (obj 7 [.int (zI ((F.1 : Int))), .ref (A 1), .ref (A 2), .ref (A 3), .int (zI ((P.1 : Int))), .ref (A 4), .ref (A 5), .int (zI ((T.1 : Int))), .ref (A 6), .int (zI ((K.1 : Int))), .ref (A 7), .ref (A 8), .ref (A 9), .ref (A 10)]) := hGet hA _ _ 0 (by decide)
                            have g8 : (HP G h A N Y (F, P, T, K, (uI (uI L w y) (w + 1) (-1)), ma, ik)) (A 8) = some (arI G 7 (uI (uI L w y) (w + 1) (-1))) := hGet hA _ _ 8 (by decide)
                            have hmz := mz_adv (n := P.1) (L := L) (w := w) (y := y) (by omega) hy1 (by omega)
                            refine EV.goto (t := 12) dX7_canMonth_146 (by decide) ?_
                            exact ih12 _ (w + 2) _ _ _ (by omega) (by omega) (CI_adv (by omega) hvl (by omega) hc hy1 (by omega) hf rfl (fun z => by omega) (by omega) (hnb (by omega)) (by rw [if_neg c125])) (by omega) (by omega) (rfl)
                          · skip
                            refine EV.iconst dX7_canMonth_128 ?_
                            refine EV.goto (t := 133) dX7_canMonth_129 (by decide) ?_
                            refine EV.isub dX7_canMonth_133 ?_
                            refine EV.istore (i := 4) (lv' := [some (.ref (A 0)), some (.int (zI (t))), some (.int (zI ((s : Int)))), some (.int (zI ((w : Int)))), some (.int (zI ((((s : Int) - (skp L w : Int)) - 1))))]) dX7_canMonth_134 (by decide) rfl ?_
                            refine EV.iinc (i := 3) (lv' := [some (.ref (A 0)), some (.int (zI (t))), some (.int (zI ((s : Int)))), some (.int (zI ((w : Int) + 1))), some (.int (zI ((((s : Int) - (skp L w : Int)) - 1))))]) dX7_canMonth_136 rfl (by decide) rfl ?_
                            refine EV.aload_n (i := 0) dX7_canMonth_139 rfl rfl ?_
                            refine EV.getf fl_X7_31 dX7_canMonth_140 g0 rfl ?_
                            refine EV.iload_n (i := 3) dX7_canMonth_143 rfl rfl ?_
                            refine EV.iconst dX7_canMonth_144 ?_
                            refine EV.iast dX7_canMonth_145 g8 (w + 1) (by omega) (by omega) ?_
                            refine EV.hps (h' := HP G h A N Y (F, P, T, K, (uI (uI L w y) (w + 1) (-1)), ma, ik)) (mla hA _) ?_
                            have g0 : (HP G h A N Y (F, P, T, K, (uI (uI L w y) (w + 1) (-1)), ma, ik)) (A 0) = some (obj 7 [.int (zI ((F.1 : Int))), .ref (A 1), .ref (A 2), .ref (A 3), .int (zI ((P.1 : Int))), .ref (A 4), .ref (A 5), .int (zI ((T.1 : Int))), .ref (A 6), .int (zI ((K.1 : Int))), .ref (A 7), .ref (A 8), .ref (A 9), .ref (A 10)]) := hGet hA _ _ 0 (by decide)
                            have g8 : (HP G h A N Y (F, P, T, K, (uI (uI L w y) (w + 1) (-1)), ma, ik)) (A 8) = some (arI G 7 (uI (uI L w y) (w + 1) (-1))) := hGet hA _ _ 8 (by decide)
                            have hmz := mz_adv (n := P.1) (L := L) (w := w) (y := y) (by omega) hy1 (by omega)
                            refine EV.goto (t := 12) dX7_canMonth_146 (by decide) ?_
                            exact ih12 _ (w + 2) _ _ _ (by omega) (by omega) (CI_adv (by omega) hvl (by omega) hc hy1 (by omega) hf rfl (fun z => by omega) (by omega) (hnb (by omega)) (by rw [if_pos c125])) (by omega) (by omega) (rfl)
                  · skip
                    refine EV.aload_n (i := 0) dX7_canMonth_75 rfl rfl ?_
                    refine EV.getf fl_X7_31 dX7_canMonth_76 g0 rfl ?_
                    refine EV.iload_n (i := 3) dX7_canMonth_79 rfl rfl ?_
                    refine EV.dup2 dX7_canMonth_80 rfl rfl ?_
                    refine EV.iald dX7_canMonth_81 g8 (w) (rfl) (by omega) ?_
                    refine EV.top (y := zI (y)) (by rw [uI_s]) ?_
                    refine EV.iconst dX7_canMonth_82 ?_
                    refine EV.iadd dX7_canMonth_83 ?_
                    refine EV.iast dX7_canMonth_84 g8 (w) (rfl) (by omega) ?_
                    refine EV.hps (h' := HP G h A N Y (F, P, T, K, (uI L w (y + 1)), ma, ik)) (by rw [uI_uI]; exact mla hA _) ?_
                    have g0 : (HP G h A N Y (F, P, T, K, (uI L w (y + 1)), ma, ik)) (A 0) = some (obj 7 [.int (zI ((F.1 : Int))), .ref (A 1), .ref (A 2), .ref (A 3), .int (zI ((P.1 : Int))), .ref (A 4), .ref (A 5), .int (zI ((T.1 : Int))), .ref (A 6), .int (zI ((K.1 : Int))), .ref (A 7), .ref (A 8), .ref (A 9), .ref (A 10)]) := hGet hA _ _ 0 (by decide)
                    have g8 : (HP G h A N Y (F, P, T, K, (uI L w (y + 1)), ma, ik)) (A 8) = some (arI G 7 (uI L w (y + 1))) := hGet hA _ _ 8 (by decide)
                    refine EV.goto (t := 55) dX7_canMonth_85 (by decide) ?_
                    exact ih55 (y + 1) _ (by omega) (Or.inl (by omega)) (CY_s hc c72) (by omega) (rfl)
            exact L55 _ (L w + 1) _ (by omega) (Or.inr rfl) (fun d h1 h2 _ => absurd h2 (by omega)) (Nat.lt_succ_self _) (rfl)
          · skip
            have hl1 : lf + 1 = (s : Int) - (skp L w : Int) := by rw [hlfe, if_pos c34]; omega
            have hl2 : 0 ≤ (s : Int) - (skp L w : Int) := by omega
            refine EV.iconst dX7_canMonth_37 ?_
            refine EV.goto (t := 42) dX7_canMonth_38 (by decide) ?_
            refine EV.iadd dX7_canMonth_42 ?_
            refine EV.top (y := zI (((s : Int) - (skp L w : Int)))) (by rw [hl1]) ?_
            refine EV.istore (i := 4) (lv' := [some (.ref (A 0)), some (.int (zI (t))), some (.int (zI ((s : Int)))), some (.int (zI ((w : Int)))), some (.int (zI (((s : Int) - (skp L w : Int)))))]) dX7_canMonth_43 (by decide) rfl ?_
            refine EV.aload_n (i := 0) dX7_canMonth_45 rfl rfl ?_
            refine EV.getf fl_X7_31 dX7_canMonth_46 g0 rfl ?_
            refine EV.iload_n (i := 3) dX7_canMonth_49 rfl rfl ?_
            refine EV.dup2 dX7_canMonth_50 rfl rfl ?_
            refine EV.iald dX7_canMonth_51 g8 (w) (rfl) (by omega) ?_
            refine EV.iconst dX7_canMonth_52 ?_
            refine EV.iadd dX7_canMonth_53 ?_
            refine EV.iast dX7_canMonth_54 g8 (w) (rfl) (by omega) ?_
            refine EV.hps (h' := HP G h A N Y (F, P, T, K, (uI L w (L w + 1)), ma, ik)) (mla hA _) ?_
            have g0 : (HP G h A N Y (F, P, T, K, (uI L w (L w + 1)), ma, ik)) (A 0) = some (obj 7 [.int (zI ((F.1 : Int))), .ref (A 1), .ref (A 2), .ref (A 3), .int (zI ((P.1 : Int))), .ref (A 4), .ref (A 5), .int (zI ((T.1 : Int))), .ref (A 6), .int (zI ((K.1 : Int))), .ref (A 7), .ref (A 8), .ref (A 9), .ref (A 10)]) := hGet hA _ _ 0 (by decide)
            have g8 : (HP G h A N Y (F, P, T, K, (uI L w (L w + 1)), ma, ik)) (A 8) = some (arI G 7 (uI L w (L w + 1))) := hGet hA _ _ 8 (by decide)
            have L55 : ∀ (n55 : Nat) (y : Int) (hh : Hp), (L w < y) → (y ≤ 30 ∨ y = L w + 1) → (CY' (moC F P t) (moD P) L w y) → (31 - y).toNat < n55 → hh = HP G h A N Y (F, P, T, K, (uI L w y), ma, ik) → EV G l mX7_canMonth (d + 5) (fun o h' => ∃ (b : Bool) (la' : Nat → Int), o = some (.int (zI (bI b))) ∧ h' = HP G h A N Y (F, P, T, K, la', ma, ik) ∧ (b = true → vld (moC F P t) (moD P) la' P.1 ∧ skp la' P.1 ≤ s ∧ ∀ M, vld (moC F P t) (moD P) M P.1 → skp M P.1 ≤ s → ¬ bef M la' P.1) ∧ (b = false → ∀ M, vld (moC F P t) (moD P) M P.1 → skp M P.1 ≤ s → False)) 55 [some (.ref (A 0)), some (.int (zI (t))), some (.int (zI ((s : Int)))), some (.int (zI ((w : Int)))), some (.int (zI (((s : Int) - (skp L w : Int)))))] [] hh 0 0 := by
              intro n55
              induction n55 with
              | zero => intro _ _ _ _ _ hm; exact absurd hm (Nat.not_lt_zero _)
              | succ n55 ih55 =>
                intro y hh hy1 hy2 hc hm55 eh
                subst eh
                have g0 : (HP G h A N Y (F, P, T, K, (uI L w y), ma, ik)) (A 0) = some (obj 7 [.int (zI ((F.1 : Int))), .ref (A 1), .ref (A 2), .ref (A 3), .int (zI ((P.1 : Int))), .ref (A 4), .ref (A 5), .int (zI ((T.1 : Int))), .ref (A 6), .int (zI ((K.1 : Int))), .ref (A 7), .ref (A 8), .ref (A 9), .ref (A 10)]) := hGet hA _ _ 0 (by decide)
                have g8 : (HP G h A N Y (F, P, T, K, (uI L w y), ma, ik)) (A 8) = some (arI G 7 (uI L w y)) := hGet hA _ _ 8 (by decide)
                have hM : ModAt G (HP G h A N Y (F, P, T, K, (uI L w y), ma, ik)) (A 0) (fun i => A (i + 1)) F P T K (uI L w y) ma ik := hMod hA
                refine EV.aload_n (i := 0) dX7_canMonth_55 rfl rfl ?_
                refine EV.getf fl_X7_31 dX7_canMonth_56 g0 rfl ?_
                refine EV.iload_n (i := 3) dX7_canMonth_59 rfl rfl ?_
                refine EV.iald dX7_canMonth_60 g8 (w) (rfl) (by omega) ?_
                refine EV.top (y := zI (y)) (by rw [uI_s]) ?_
                refine EV.bipush dX7_canMonth_61 (by decide) ?_
                refine EV.icmp_ge (t := 88) dX7_canMonth_63 (by decide) (by omega) (fun c63 => ?_) (fun c63 => ?_)
                · skip
                  have hf : y < 30 → fitB (moC F P t) (moD P) L w y = true := fun z => absurd z (by omega)
                  refine EV.aload_n (i := 0) dX7_canMonth_88 rfl rfl ?_
                  refine EV.getf fl_X7_31 dX7_canMonth_89 g0 rfl ?_
                  refine EV.iload_n (i := 3) dX7_canMonth_92 rfl rfl ?_
                  refine EV.iald dX7_canMonth_93 g8 (w) (rfl) (by omega) ?_
                  refine EV.top (y := zI (y)) (by rw [uI_s]) ?_
                  refine EV.bipush dX7_canMonth_94 (by decide) ?_
                  refine EV.icmp_lt (t := 115) dX7_canMonth_96 (by decide) (by omega) (fun c96 => ?_) (fun c96 => ?_)
                  · skip
                    refine EV.iload (i := 4) dX7_canMonth_115 rfl ?_
                    refine EV.aload_n (i := 0) dX7_canMonth_117 rfl rfl ?_
                    refine EV.getf fl_X7_31 dX7_canMonth_118 g0 rfl ?_
                    refine EV.iload_n (i := 3) dX7_canMonth_121 rfl rfl ?_
                    refine EV.iald dX7_canMonth_122 g8 (w) (rfl) (by omega) ?_
                    refine EV.top (y := zI (y)) (by rw [uI_s]) ?_
                    refine EV.bipush dX7_canMonth_123 (by decide) ?_
                    refine EV.icmp_ne (t := 132) dX7_canMonth_125 (by decide) (by omega) (fun c125 => ?_) (fun c125 => ?_)
                    · skip
                      refine EV.iconst dX7_canMonth_132 ?_
                      refine EV.isub dX7_canMonth_133 ?_
                      refine EV.istore (i := 4) (lv' := [some (.ref (A 0)), some (.int (zI (t))), some (.int (zI ((s : Int)))), some (.int (zI ((w : Int)))), some (.int (zI ((((s : Int) - (skp L w : Int)) - 0))))]) dX7_canMonth_134 (by decide) rfl ?_
                      refine EV.iinc (i := 3) (lv' := [some (.ref (A 0)), some (.int (zI (t))), some (.int (zI ((s : Int)))), some (.int (zI ((w : Int) + 1))), some (.int (zI ((((s : Int) - (skp L w : Int)) - 0))))]) dX7_canMonth_136 rfl (by decide) rfl ?_
                      refine EV.aload_n (i := 0) dX7_canMonth_139 rfl rfl ?_
                      refine EV.getf fl_X7_31 dX7_canMonth_140 g0 rfl ?_
                      refine EV.iload_n (i := 3) dX7_canMonth_143 rfl rfl ?_
                      refine EV.iconst dX7_canMonth_144 ?_
                      refine EV.iast dX7_canMonth_145 g8 (w + 1) (by omega) (by omega) ?_
                      refine EV.hps (h' := HP G h A N Y (F, P, T, K, (uI (uI L w y) (w + 1) (-1)), ma, ik)) (mla hA _) ?_
                      have g0 : (HP G h A N Y (F, P, T, K, (uI (uI L w y) (w + 1) (-1)), ma, ik)) (A 0) = some (obj 7 [.int (zI ((F.1 : Int))), .ref (A 1), .ref (A 2), .ref (A 3), .int (zI ((P.1 : Int))), .ref (A 4), .ref (A 5), .int (zI ((T.1 : Int))), .ref (A 6), .int (zI ((K.1 : Int))), .ref (A 7), .ref (A 8), .ref (A 9), .ref (A 10)]) := hGet hA _ _ 0 (by decide)
                      have g8 : (HP G h A N Y (F, P, T, K, (uI (uI L w y) (w + 1) (-1)), ma, ik)) (A 8) = some (arI G 7 (uI (uI L w y) (w + 1) (-1))) := hGet hA _ _ 8 (by decide)
                      have hmz := mz_adv (n := P.1) (L := L) (w := w) (y := y) (by omega) hy1 (by omega)
                      refine EV.goto (t := 12) dX7_canMonth_146 (by decide) ?_
                      exact ih12 _ (w + 2) _ _ _ (by omega) (by omega) (CI_adv (by omega) hvl (by omega) hc hy1 (by omega) hf rfl (fun z => by omega) (by omega) (hnb (by omega)) (by rw [if_neg c125])) (by omega) (by omega) (rfl)
                    · skip
                      refine EV.iconst dX7_canMonth_128 ?_
                      refine EV.goto (t := 133) dX7_canMonth_129 (by decide) ?_
                      refine EV.isub dX7_canMonth_133 ?_
                      refine EV.istore (i := 4) (lv' := [some (.ref (A 0)), some (.int (zI (t))), some (.int (zI ((s : Int)))), some (.int (zI ((w : Int)))), some (.int (zI ((((s : Int) - (skp L w : Int)) - 1))))]) dX7_canMonth_134 (by decide) rfl ?_
                      refine EV.iinc (i := 3) (lv' := [some (.ref (A 0)), some (.int (zI (t))), some (.int (zI ((s : Int)))), some (.int (zI ((w : Int) + 1))), some (.int (zI ((((s : Int) - (skp L w : Int)) - 1))))]) dX7_canMonth_136 rfl (by decide) rfl ?_
                      refine EV.aload_n (i := 0) dX7_canMonth_139 rfl rfl ?_
                      refine EV.getf fl_X7_31 dX7_canMonth_140 g0 rfl ?_
                      refine EV.iload_n (i := 3) dX7_canMonth_143 rfl rfl ?_
                      refine EV.iconst dX7_canMonth_144 ?_
                      refine EV.iast dX7_canMonth_145 g8 (w + 1) (by omega) (by omega) ?_
                      refine EV.hps (h' := HP G h A N Y (F, P, T, K, (uI (uI L w y) (w + 1) (-1)), ma, ik)) (mla hA _) ?_
                      have g0 : (HP G h A N Y (F, P, T, K, (uI (uI L w y) (w + 1) (-1)), ma, ik)) (A 0) = some (obj 7 [.int (zI ((F.1 : Int))), .ref (A 1), .ref (A 2), .ref (A 3), .int (zI ((P.1 : Int))), .ref (A 4), .ref (A 5), .int (zI ((T.1 : Int))), .ref (A 6), .int (zI ((K.1 : Int))), .ref (A 7), .ref (A 8), .ref (A 9), .ref (A 10)]) := hGet hA _ _ 0 (by decide)
                      have g8 : (HP G h A N Y (F, P, T, K, (uI (uI L w y) (w + 1) (-1)), ma, ik)) (A 8) = some (arI G 7 (uI (uI L w y) (w + 1) (-1))) := hGet hA _ _ 8 (by decide)
                      have hmz := mz_adv (n := P.1) (L := L) (w := w) (y := y) (by omega) hy1 (by omega)
                      refine EV.goto (t := 12) dX7_canMonth_146 (by decide) ?_
                      exact ih12 _ (w + 2) _ _ _ (by omega) (by omega) (CI_adv (by omega) hvl (by omega) hc hy1 (by omega) hf rfl (fun z => by omega) (by omega) (hnb (by omega)) (by rw [if_pos c125])) (by omega) (by omega) (rfl)
                  · skip
                    refine EV.aload_n (i := 0) dX7_canMonth_99 rfl rfl ?_
                    refine EV.getf fl_X7_31 dX7_canMonth_100 g0 rfl ?_
                    refine EV.iload_n (i := 3) dX7_canMonth_103 rfl rfl ?_
                    refine EV.iald dX7_canMonth_104 g8 (w) (rfl) (by omega) ?_
                    refine EV.top (y := zI (y)) (by rw [uI_s]) ?_
                    refine EV.bipush dX7_canMonth_105 (by decide) ?_
                    refine EV.icmp_ne (t := 149) dX7_canMonth_107 (by decide) (by omega) (fun c107 => ?_) (fun c107 => ?_)
                    · skip
                      have hmz2 : mz P.1 (uI L w y) w ≤ mz P.1 L (w + 1) := by rw [mz_cg (M := L) (fun u hu => uI_n _ _ (by omega))]; exact mz_le w
                      refine EV.iinc (i := 3) (lv' := [some (.ref (A 0)), some (.int (zI (t))), some (.int (zI ((s : Int)))), some (.int (zI ((w : Int) + (-1)))), some (.int (zI (((s : Int) - (skp L w : Int)))))]) dX7_canMonth_149 rfl (by decide) rfl ?_
                      refine EV.goto (t := 12) dX7_canMonth_152 (by decide) ?_
                      exact ih12 _ w _ _ _ (by omega) (by omega) (CI_ret (by omega) hvl (by omega) hc hy1 hy2 rfl (by omega) (by omega) (hnb (by omega))) (by omega) (by omega) (rfl)
                    · skip
                      refine EV.iload (i := 4) dX7_canMonth_110 rfl ?_
                      refine EV.ifle (t := 149) dX7_canMonth_112 (by decide) (by omega) (fun c112 => ?_) (fun c112 => ?_)
                      · skip
                        have hmz2 : mz P.1 (uI L w y) w ≤ mz P.1 L (w + 1) := by rw [mz_cg (M := L) (fun u hu => uI_n _ _ (by omega))]; exact mz_le w
                        refine EV.iinc (i := 3) (lv' := [some (.ref (A 0)), some (.int (zI (t))), some (.int (zI ((s : Int)))), some (.int (zI ((w : Int) + (-1)))), some (.int (zI (((s : Int) - (skp L w : Int)))))]) dX7_canMonth_149 rfl (by decide) rfl ?_
                        refine EV.goto (t := 12) dX7_canMonth_152 (by decide) ?_
                        exact ih12 _ w _ _ _ (by omega) (by omega) (CI_ret (by omega) hvl (by omega) hc hy1 hy2 rfl (by omega) (by omega) (hnb (by omega))) (by omega) (by omega) (rfl)
                      · skip
                        refine EV.iload (i := 4) dX7_canMonth_115 rfl ?_
                        refine EV.aload_n (i := 0) dX7_canMonth_117 rfl rfl ?_
                        refine EV.getf fl_X7_31 dX7_canMonth_118 g0 rfl ?_
                        refine EV.iload_n (i := 3) dX7_canMonth_121 rfl rfl ?_
                        refine EV.iald dX7_canMonth_122 g8 (w) (rfl) (by omega) ?_
                        refine EV.top (y := zI (y)) (by rw [uI_s]) ?_
                        refine EV.bipush dX7_canMonth_123 (by decide) ?_
                        refine EV.icmp_ne (t := 132) dX7_canMonth_125 (by decide) (by omega) (fun c125 => ?_) (fun c125 => ?_)
                        · skip
                          refine EV.iconst dX7_canMonth_132 ?_
                          refine EV.isub dX7_canMonth_133 ?_
                          refine EV.istore (i := 4) (lv' := [some (.ref (A 0)), some (.int (zI (t))), some (.int (zI ((s : Int)))), some (.int (zI ((w : Int)))), some (.int (zI ((((s : Int) - (skp L w : Int)) - 0))))]) dX7_canMonth_134 (by decide) rfl ?_
                          refine EV.iinc (i := 3) (lv' := [some (.ref (A 0)), some (.int (zI (t))), some (.int (zI ((s : Int)))), some (.int (zI ((w : Int) + 1))), some (.int (zI ((((s : Int) - (skp L w : Int)) - 0))))]) dX7_canMonth_136 rfl (by decide) rfl ?_
                          refine EV.aload_n (i := 0) dX7_canMonth_139 rfl rfl ?_
                          refine EV.getf fl_X7_31 dX7_canMonth_140 g0 rfl ?_
                          refine EV.iload_n (i := 3) dX7_canMonth_143 rfl rfl ?_
                          refine EV.iconst dX7_canMonth_144 ?_
                          refine EV.iast dX7_canMonth_145 g8 (w + 1) (by omega) (by omega) ?_
                          refine EV.hps (h' := HP G h A N Y (F, P, T, K, (uI (uI L w y) (w + 1) (-1)), ma, ik)) (mla hA _) ?_
                          have g0 : (HP G h A N Y (F, P, T, K, (uI (uI L w y) (w + 1) (-1)), ma, ik)) (A 0) = some (obj 7 [.int (zI ((F.1 : Int))), .ref (A 1), .ref (A 2), .ref (A 3), .int (zI ((P.1 : Int))), .ref (A 4), .ref (A 5), .int (zI ((T.1 : Int))), .ref (A 6), .int (zI ((K.1 : Int))), .ref (A 7), .ref (A 8), .ref (A 9), .ref (A 10)]) := hGet hA _ _ 0 (by decide)
                          have g8 : (HP G h A N Y (F, P, T, K, (uI (uI L w y) (w + 1) (-1)), ma, ik)) (A 8) = some (arI G 7 (uI (uI L w y) (w + 1) (-1))) := hGet hA _ _ 8 (by decide)
                          have hmz := mz_adv (n := P.1) (L := L) (w := w) (y := y) (by omega) hy1 (by omega)
                          refine EV.goto (t := 12) dX7_canMonth_146 (by decide) ?_
                          exact ih12 _ (w + 2) _ _ _ (by omega) (by omega) (CI_adv (by omega) hvl (by omega) hc hy1 (by omega) hf rfl (fun z => by omega) (by omega) (hnb (by omega)) (by rw [if_neg c125])) (by omega) (by omega) (rfl)
                        · skip
                          refine EV.iconst dX7_canMonth_128 ?_
                          refine EV.goto (t := 133) dX7_canMonth_129 (by decide) ?_
                          refine EV.isub dX7_canMonth_133 ?_
                          refine EV.istore (i := 4) (lv' := [some (.ref (A 0)), some (.int (zI (t))), some (.int (zI ((s : Int)))), some (.int (zI ((w : Int)))), some (.int (zI ((((s : Int) - (skp L w : Int)) - 1))))]) dX7_canMonth_134 (by decide) rfl ?_
                          refine EV.iinc (i := 3) (lv' := [some (.ref (A 0)), some (.int (zI (t))), some (.int (zI ((s : Int)))), some (.int (zI ((w : Int) + 1))), some (.int (zI ((((s : Int) - (skp L w : Int)) - 1))))]) dX7_canMonth_136 rfl (by decide) rfl ?_
                          refine EV.aload_n (i := 0) dX7_canMonth_139 rfl rfl ?_
                          refine EV.getf fl_X7_31 dX7_canMonth_140 g0 rfl ?_
                          refine EV.iload_n (i := 3) dX7_canMonth_143 rfl rfl ?_
                          refine EV.iconst dX7_canMonth_144 ?_
                          refine EV.iast dX7_canMonth_145 g8 (w + 1) (by omega) (by omega) ?_
                          refine EV.hps (h' := HP G h A N Y (F, P, T, K, (uI (uI L w y) (w + 1) (-1)), ma, ik)) (mla hA _) ?_
                          have g0 : (HP G h A N Y (F, P, T, K, (uI (uI L w y) (w + 1) (-1)), ma, ik)) (A 0) = some (obj 7 [.int (zI ((F.1 : Int))), .ref (A 1), .ref (A 2), .ref (A 3), .int (zI ((P.1 : Int))), .ref (A 4), .ref (A 5), .int (zI ((T.1 : Int))), .ref (A 6), .int (zI ((K.1 : Int))), .ref (A 7), .ref (A 8), .ref (A 9), .ref (A 10)]) := hGet hA _ _ 0 (by decide)
                          have g8 : (HP G h A N Y (F, P, T, K, (uI (uI L w y) (w + 1) (-1)), ma, ik)) (A 8) = some (arI G 7 (uI (uI L w y) (w + 1) (-1))) := hGet hA _ _ 8 (by decide)
                          have hmz := mz_adv (n := P.1) (L := L) (w := w) (y := y) (by omega) hy1 (by omega)
                          refine EV.goto (t := 12) dX7_canMonth_146 (by decide) ?_
                          exact ih12 _ (w + 2) _ _ _ (by omega) (by omega) (CI_adv (by omega) hvl (by omega) hc hy1 (by omega) hf rfl (fun z => by omega) (by omega) (hnb (by omega)) (by rw [if_pos c125])) (by omega) (by omega) (rfl)
                · skip
                  refine EV.aload_n (i := 0) dX7_canMonth_66 rfl rfl ?_
                  refine EV.iload_n (i := 3) dX7_canMonth_67 rfl rfl ?_
                  refine EV.iload_n (i := 1) dX7_canMonth_68 rfl rfl ?_
                  refine EV.callVr (M' := mX7_fitsAhead) (as := [.int (zI ((w : Int))), .int (zI (t))]) (rest := []) ml_X7_103 im_X7_fitsAhead se_X7_fitsAhead rfl co_X7_fitsAhead dX7_canMonth_69 g0 (c_X7_fitsAhead (d + 0) hM hW hP w t (by omega) ht (fun v hv => by rw [uI_n _ _ (by omega)]; have := (hvl v hv).1; exact ⟨by omega, by omega⟩) (by rw [uI_s]; omega)) rfl rfl (Nat.le_of_ble_eq_true rfl) ?_
                  refine EV.top (y := zI (bI (fitB (moC F P t) (moD P) L w y))) (by rw [uI_s, fitB_cg (L := uI L w y) (M := L) (fun u hu => uI_n _ _ (by omega))]) ?_
                  refine EV.ifneB (t := 88) dX7_canMonth_72 (by decide) (fun c72 => ?_) (fun c72 => ?_)
                  · skip
                    have hf : y < 30 → fitB (moC F P t) (moD P) L w y = true := fun _ => c72
                    refine EV.aload_n (i := 0) dX7_canMonth_88 rfl rfl ?_
                    refine EV.getf fl_X7_31 dX7_canMonth_89 g0 rfl ?_
                    refine EV.iload_n (i := 3) dX7_canMonth_92 rfl rfl ?_
                    refine EV.iald dX7_canMonth_93 g8 (w) (rfl) (by omega) ?_
                    refine EV.top (y := zI (y)) (by rw [uI_s]) ?_
                    refine EV.bipush dX7_canMonth_94 (by decide) ?_
                    refine EV.icmp_lt (t := 115) dX7_canMonth_96 (by decide) (by omega) (fun c96 => ?_) (fun c96 => ?_)
                    · skip
                      refine EV.iload (i := 4) dX7_canMonth_115 rfl ?_
                      refine EV.aload_n (i := 0) dX7_canMonth_117 rfl rfl ?_
                      refine EV.getf fl_X7_31 dX7_canMonth_118 g0 rfl ?_
                      refine EV.iload_n (i := 3) dX7_canMonth_121 rfl rfl ?_
                      refine EV.iald dX7_canMonth_122 g8 (w) (rfl) (by omega) ?_
                      refine EV.top (y := zI (y)) (by rw [uI_s]) ?_
                      refine EV.bipush dX7_canMonth_123 (by decide) ?_
                      refine EV.icmp_ne (t := 132) dX7_canMonth_125 (by decide) (by omega) (fun c125 => ?_) (fun c125 => ?_)
                      · skip
                        refine EV.iconst dX7_canMonth_132 ?_
                        refine EV.isub dX7_canMonth_133 ?_
                        refine EV.istore (i := 4) (lv' := [some (.ref (A 0)), some (.int (zI (t))), some (.int (zI ((s : Int)))), some (.int (zI ((w : Int)))), some (.int (zI ((((s : Int) - (skp L w : Int)) - 0))))]) dX7_canMonth_134 (by decide) rfl ?_
                        refine EV.iinc (i := 3) (lv' := [some (.ref (A 0)), some (.int (zI (t))), some (.int (zI ((s : Int)))), some (.int (zI ((w : Int) + 1))), some (.int (zI ((((s : Int) - (skp L w : Int)) - 0))))]) dX7_canMonth_136 rfl (by decide) rfl ?_
                        refine EV.aload_n (i := 0) dX7_canMonth_139 rfl rfl ?_
                        refine EV.getf fl_X7_31 dX7_canMonth_140 g0 rfl ?_
                        refine EV.iload_n (i := 3) dX7_canMonth_143 rfl rfl ?_
                        refine EV.iconst dX7_canMonth_144 ?_
                        refine EV.iast dX7_canMonth_145 g8 (w + 1) (by omega) (by omega) ?_
                        refine EV.hps (h' := HP G h A N Y (F, P, T, K, (uI (uI L w y) (w + 1) (-1)), ma, ik)) (mla hA _) ?_
                        have g0 : (HP G h A N Y (F, P, T, K, (uI (uI L w y) (w + 1) (-1)), ma, ik)) (A 0) = some (obj 7 [.int (zI ((F.1 : Int))), .ref (A 1), .ref (A 2), .ref (A 3), .int (zI ((P.1 : Int))), .ref (A 4), .ref (A 5), .int (zI ((T.1 : Int))), .ref (A 6), .int (zI ((K.1 : Int))), .ref (A 7), .ref (A 8), .ref (A 9), .ref (A 10)]) := hGet hA _ _ 0 (by decide)
                        have g8 : (HP G h A N Y (F, P, T, K, (uI (uI L w y) (w + 1) (-1)), ma, ik)) (A 8) = some (arI G 7 (uI (uI L w y) (w + 1) (-1))) := hGet hA _ _ 8 (by decide)
                        have hmz := mz_adv (n := P.1) (L := L) (w := w) (y := y) (by omega) hy1 (by omega)
                        refine EV.goto (t := 12) dX7_canMonth_146 (by decide) ?_
                        exact ih12 _ (w + 2) _ _ _ (by omega) (by omega) (CI_adv (by omega) hvl (by omega) hc hy1 (by omega) hf rfl (fun z => by omega) (by omega) (hnb (by omega)) (by rw [if_neg c125])) (by omega) (by omega) (rfl)
                      · skip
                        refine EV.iconst dX7_canMonth_128 ?_
                        refine EV.goto (t := 133) dX7_canMonth_129 (by decide) ?_
                        refine EV.isub dX7_canMonth_133 ?_
                        refine EV.istore (i := 4) (lv' := [some (.ref (A 0)), some (.int (zI (t))), some (.int (zI ((s : Int)))), some (.int (zI ((w : Int)))), some (.int (zI ((((s : Int) - (skp L w : Int)) - 1))))]) dX7_canMonth_134 (by decide) rfl ?_
                        refine EV.iinc (i := 3) (lv' := [some (.ref (A 0)), some (.int (zI (t))), some (.int (zI ((s : Int)))), some (.int (zI ((w : Int) + 1))), some (.int (zI ((((s : Int) - (skp L w : Int)) - 1))))]) dX7_canMonth_136 rfl (by decide) rfl ?_
                        refine EV.aload_n (i := 0) dX7_canMonth_139 rfl rfl ?_
                        refine EV.getf fl_X7_31 dX7_canMonth_140 g0 rfl ?_
                        refine EV.iload_n (i := 3) dX7_canMonth_143 rfl rfl ?_
                        refine EV.iconst dX7_canMonth_144 ?_
                        refine EV.iast dX7_canMonth_145 g8 (w + 1) (by omega) (by omega) ?_
                        refine EV.hps (h' := HP G h A N Y (F, P, T, K, (uI (uI L w y) (w + 1) (-1)), ma, ik)) (mla hA _) ?_
                        have g0 : (HP G h A N Y (F, P, T, K, (uI (uI L w y) (w + 1) (-1)), ma, ik)) (A 0) = some (obj 7 [.int (zI ((F.1 : Int))), .ref (A 1), .ref (A 2), .ref (A 3), .int (zI ((P.1 : Int))), .ref (A 4), .ref (A 5), .int (zI ((T.1 : Int))), .ref (A 6), .int (zI ((K.1 : Int))), .ref (A 7), .ref (A 8), .ref (A 9), .ref (A 10)]) := hGet hA _ _ 0 (by decide)
                        have g8 : (HP G h A N Y (F, P, T, K, (uI (uI L w y) (w + 1) (-1)), ma, ik)) (A 8) = some (arI G 7 (uI (uI L w y) (w + 1) (-1))) := hGet hA _ _ 8 (by decide)
                        have hmz := mz_adv (n := P.1) (L := L) (w := w) (y := y) (by omega) hy1 (by omega)
                        refine EV.goto (t := 12) dX7_canMonth_146 (by decide) ?_
                        exact ih12 _ (w + 2) _ _ _ (by omega) (by omega) (CI_adv (by omega) hvl (by omega) hc hy1 (by omega) hf rfl (fun z => by omega) (by omega) (hnb (by omega)) (by rw [if_pos c125])) (by omega) (by omega) (rfl)
                    · skip
                      refine EV.aload_n (i := 0) dX7_canMonth_99 rfl rfl ?_
                      refine EV.getf fl_X7_31 dX7_canMonth_100 g0 rfl ?_
                      refine EV.iload_n (i := 3) dX7_canMonth_103 rfl rfl ?_
                      refine EV.iald dX7_canMonth_104 g8 (w) (rfl) (by omega) ?_
                      refine EV.top (y := zI (y)) (by rw [uI_s]) ?_
                      refine EV.bipush dX7_canMonth_105 (by decide) ?_
                      refine EV.icmp_ne (t := 149) dX7_canMonth_107 (by decide) (by omega) (fun c107 => ?_) (fun c107 => ?_)
                      · skip
                        have hmz2 : mz P.1 (uI L w y) w ≤ mz P.1 L (w + 1) := by rw [mz_cg (M := L) (fun u hu => uI_n _ _ (by omega))]; exact mz_le w
                        refine EV.iinc (i := 3) (lv' := [some (.ref (A 0)), some (.int (zI (t))), some (.int (zI ((s : Int)))), some (.int (zI ((w : Int) + (-1)))), some (.int (zI (((s : Int) - (skp L w : Int)))))]) dX7_canMonth_149 rfl (by decide) rfl ?_
                        refine EV.goto (t := 12) dX7_canMonth_152 (by decide) ?_
                        exact ih12 _ w _ _ _ (by omega) (by omega) (CI_ret (by omega) hvl (by omega) hc hy1 hy2 rfl (by omega) (by omega) (hnb (by omega))) (by omega) (by omega) (rfl)
                      · skip
                        refine EV.iload (i := 4) dX7_canMonth_110 rfl ?_
                        refine EV.ifle (t := 149) dX7_canMonth_112 (by decide) (by omega) (fun c112 => ?_) (fun c112 => ?_)
                        · skip
                          have hmz2 : mz P.1 (uI L w y) w ≤ mz P.1 L (w + 1) := by rw [mz_cg (M := L) (fun u hu => uI_n _ _ (by omega))]; exact mz_le w
                          refine EV.iinc (i := 3) (lv' := [some (.ref (A 0)), some (.int (zI (t))), some (.int (zI ((s : Int)))), some (.int (zI ((w : Int) + (-1)))), some (.int (zI (((s : Int) - (skp L w : Int)))))]) dX7_canMonth_149 rfl (by decide) rfl ?_
                          refine EV.goto (t := 12) dX7_canMonth_152 (by decide) ?_
                          exact ih12 _ w _ _ _ (by omega) (by omega) (CI_ret (by omega) hvl (by omega) hc hy1 hy2 rfl (by omega) (by omega) (hnb (by omega))) (by omega) (by omega) (rfl)
                        · skip
                          refine EV.iload (i := 4) dX7_canMonth_115 rfl ?_
                          refine EV.aload_n (i := 0) dX7_canMonth_117 rfl rfl ?_
                          refine EV.getf fl_X7_31 dX7_canMonth_118 g0 rfl ?_
                          refine EV.iload_n (i := 3) dX7_canMonth_121 rfl rfl ?_
                          refine EV.iald dX7_canMonth_122 g8 (w) (rfl) (by omega) ?_
                          refine EV.top (y := zI (y)) (by rw [uI_s]) ?_
                          refine EV.bipush dX7_canMonth_123 (by decide) ?_
                          refine EV.icmp_ne (t := 132) dX7_canMonth_125 (by decide) (by omega) (fun c125 => ?_) (fun c125 => ?_)
                          · skip
                            refine EV.iconst dX7_canMonth_132 ?_
                            refine EV.isub dX7_canMonth_133 ?_
                            refine EV.istore (i := 4) (lv' := [some (.ref (A 0)), some (.int (zI (t))), some (.int (zI ((s : Int)))), some (.int (zI ((w : Int)))), some (.int (zI ((((s : Int) - (skp L w : Int)) - 0))))]) dX7_canMonth_134 (by decide) rfl ?_
                            refine EV.iinc (i := 3) (lv' := [some (.ref (A 0)), some (.int (zI (t))), some (.int (zI ((s : Int)))), some (.int (zI ((w : Int) + 1))), some (.int (zI ((((s : Int) - (skp L w : Int)) - 0))))]) dX7_canMonth_136 rfl (by decide) rfl ?_
                            refine EV.aload_n (i := 0) dX7_canMonth_139 rfl rfl ?_
                            refine EV.getf fl_X7_31 dX7_canMonth_140 g0 rfl ?_
                            refine EV.iload_n (i := 3) dX7_canMonth_143 rfl rfl ?_
                            refine EV.iconst dX7_canMonth_144 ?_
                            refine EV.iast dX7_canMonth_145 g8 (w + 1) (by omega) (by omega) ?_
                            refine EV.hps (h' := HP G h A N Y (F, P, T, K, (uI (uI L w y) (w + 1) (-1)), ma, ik)) (mla hA _) ?_
                            have g0 : (HP G h A N Y (F, P, T, K, (uI (uI L w y) (w + 1) (-1)), ma, ik)) (A 0) = some (obj 7 [.int (zI ((F.1 : Int))), .ref (A 1), .ref (A 2), .ref (A 3), .int (zI ((P.1 : Int))), .ref (A 4), .ref (A 5), .int (zI ((T.1 : Int))), .ref (A 6), .int (zI ((K.1 : Int))), .ref (A 7), .ref (A 8), .ref (A 9), .ref (A 10)]) := hGet hA _ _ 0 (by decide)
                            have g8 : (HP G h A N Y (F, P, T, K, (uI (uI L w y) (w + 1) (-1)), ma, ik)) (A 8) = some (arI G 7 (uI (uI L w y) (w + 1) (-1))) := hGet hA _ _ 8 (by decide)
                            have hmz := mz_adv (n := P.1) (L := L) (w := w) (y := y) (by omega) hy1 (by omega)
                            refine EV.goto (t := 12) dX7_canMonth_146 (by decide) ?_
                            exact ih12 _ (w + 2) _ _ _ (by omega) (by omega) (CI_adv (by omega) hvl (by omega) hc hy1 (by omega) hf rfl (fun z => by omega) (by omega) (hnb (by omega)) (by rw [if_neg c125])) (by omega) (by omega) (rfl)
                          · skip
                            refine EV.iconst dX7_canMonth_128 ?_
                            refine EV.goto (t := 133) dX7_canMonth_129 (by decide) ?_
                            refine EV.isub dX7_canMonth_133 ?_
                            refine EV.istore (i := 4) (lv' := [some (.ref (A 0)), some (.int (zI (t))), some (.int (zI ((s : Int)))), some (.int (zI ((w : Int)))), some (.int (zI ((((s : Int) - (skp L w : Int)) - 1))))]) dX7_canMonth_134 (by decide) rfl ?_
                            refine EV.iinc (i := 3) (lv' := [some (.ref (A 0)), some (.int (zI (t))), some (.int (zI ((s : Int)))), some (.int (zI ((w : Int) + 1))), some (.int (zI ((((s : Int) - (skp L w : Int)) - 1))))]) dX7_canMonth_136 rfl (by decide) rfl ?_
                            refine EV.aload_n (i := 0) dX7_canMonth_139 rfl rfl ?_
                            refine EV.getf fl_X7_31 dX7_canMonth_140 g0 rfl ?_
                            refine EV.iload_n (i := 3) dX7_canMonth_143 rfl rfl ?_
                            refine EV.iconst dX7_canMonth_144 ?_
                            refine EV.iast dX7_canMonth_145 g8 (w + 1) (by omega) (by omega) ?_
                            refine EV.hps (h' := HP G h A N Y (F, P, T, K, (uI (uI L w y) (w + 1) (-1)), ma, ik)) (mla hA _) ?_
                            have g0 : (HP G h A N Y (F, P, T, K, (uI (uI L w y) (w + 1) (-1)), ma, ik)) (A 0) = some (obj 7 [.int (zI ((F.1 : Int))), .ref (A 1), .ref (A 2), .ref (A 3), .int (zI ((P.1 : Int))), .ref (A 4), .ref (A 5), .int (zI ((T.1 : Int))), .ref (A 6), .int (zI ((K.1 : Int))), .ref (A 7), .ref (A 8), .ref (A 9), .ref (A 10)]) := hGet hA _ _ 0 (by decide)
                            have g8 : (HP G h A N Y (F, P, T, K, (uI (uI L w y) (w + 1) (-1)), ma, ik)) (A 8) = some (arI G 7 (uI (uI L w y) (w + 1) (-1))) := hGet hA _ _ 8 (by decide)
                            have hmz := mz_adv (n := P.1) (L := L) (w := w) (y := y) (by omega) hy1 (by omega)
                            refine EV.goto (t := 12) dX7_canMonth_146 (by decide) ?_
                            exact ih12 _ (w + 2) _ _ _ (by omega) (by omega) (CI_adv (by omega) hvl (by omega) hc hy1 (by omega) hf rfl (fun z => by omega) (by omega) (hnb (by omega)) (by rw [if_pos c125])) (by omega) (by omega) (rfl)
                  · skip
                    refine EV.aload_n (i := 0) dX7_canMonth_75 rfl rfl ?_
                    refine EV.getf fl_X7_31 dX7_canMonth_76 g0 rfl ?_
                    refine EV.iload_n (i := 3) dX7_canMonth_79 rfl rfl ?_
                    refine EV.dup2 dX7_canMonth_80 rfl rfl ?_
                    refine EV.iald dX7_canMonth_81 g8 (w) (rfl) (by omega) ?_
                    refine EV.top (y := zI (y)) (by rw [uI_s]) ?_
                    refine EV.iconst dX7_canMonth_82 ?_
                    refine EV.iadd dX7_canMonth_83 ?_
                    refine EV.iast dX7_canMonth_84 g8 (w) (rfl) (by omega) ?_
                    refine EV.hps (h' := HP G h A N Y (F, P, T, K, (uI L w (y + 1)), ma, ik)) (by rw [uI_uI]; exact mla hA _) ?_
                    have g0 : (HP G h A N Y (F, P, T, K, (uI L w (y + 1)), ma, ik)) (A 0) = some (obj 7 [.int (zI ((F.1 : Int))), .ref (A 1), .ref (A 2), .ref (A 3), .int (zI ((P.1 : Int))), .ref (A 4), .ref (A 5), .int (zI ((T.1 : Int))), .ref (A 6), .int (zI ((K.1 : Int))), .ref (A 7), .ref (A 8), .ref (A 9), .ref (A 10)]) := hGet hA _ _ 0 (by decide)
                    have g8 : (HP G h A N Y (F, P, T, K, (uI L w (y + 1)), ma, ik)) (A 8) = some (arI G 7 (uI L w (y + 1))) := hGet hA _ _ 8 (by decide)
                    refine EV.goto (t := 55) dX7_canMonth_85 (by decide) ?_
                    exact ih55 (y + 1) _ (by omega) (Or.inl (by omega)) (CY_s hc c72) (by omega) (rfl)
            exact L55 _ (L w + 1) _ (by omega) (Or.inr rfl) (fun d h1 h2 _ => absurd h2 (by omega)) (Nat.lt_succ_self _) (rfl)
  exact L12 _ (uI la 0 (-1)) 1 (s : Int) _ _ (by omega) (by omega) (CI_0 _ _ _ _ _) (Nat.lt_succ_self _) (rfl) (rfl)
set_option maxHeartbeats 4000000 in
set_option maxRecDepth 20000 in
theorem c_X7_month (d : Nat) (hA : inA A N) (hK : WFK K) (hW : WF F) (hP : WFP P) (hT : WFT T) (t w : Int) (ht : inR t) (hw : inR w) : CT G l mX7_month (d + 6) 0 0 [.ref (A 0), .int (zI (t)), .int (zI (w))] (HP G h A N Y (F, P, T, K, la, ma, ik)) (fun o h' => o = some (.int (zI (monthR F P t w))) ∧ ∃ la' : Nat → Int, h' = HP G h A N Y (F, P, T, K, la', ma, ik)) := by
  refine CT.of (by decide) (Nat.le_of_ble_eq_true rfl) (List.forall_mem_cons.mpr ⟨rfl, List.forall_mem_cons.mpr ⟨rfl, List.forall_mem_cons.mpr ⟨rfl, fun _ h => absurd h List.not_mem_nil⟩⟩⟩) ?_
  refine EV.lvs (lv' := [some (.ref (A 0)), some (.int (zI (t))), some (.int (zI (w))), none]) rfl ?_
  have g0 : (HP G h A N Y (F, P, T, K, la, ma, ik)) (A 0) = some (obj 7 [.int (zI ((F.1 : Int))), .ref (A 1), .ref (A 2), .ref (A 3), .int (zI ((P.1 : Int))), .ref (A 4), .ref (A 5), .int (zI ((T.1 : Int))), .ref (A 6), .int (zI ((K.1 : Int))), .ref (A 7), .ref (A 8), .ref (A 9), .ref (A 10)]) := hGet hA _ _ 0 (by decide)
  have g8 : (HP G h A N Y (F, P, T, K, la, ma, ik)) (A 8) = some (arI G 7 la) := hGet hA _ _ 8 (by decide)
  have hK6 := hK.1
  have hP6 := hP.1
  have hT6 := hT.1
  have hth := hW.1
  have hsf : ∀ q, q < 6 → F.1.testBit q = true → F.1.testBit q = true := fun _ _ z => z
  have hM : ModAt G (HP G h A N Y (F, P, T, K, la, ma, ik)) (A 0) (fun i => A (i + 1)) F P T K la ma ik := hMod hA
  refine EV.iload_n (i := 2) dX7_month_0 rfl rfl ?_
  refine EV.iconst dX7_month_1 ?_
  refine EV.icmp_eq (t := 15) dX7_month_2 (by decide) (by omega) (fun c2 => ?_) (fun c2 => ?_)
  · skip
    have hwy : w = -1 ∨ rg w 0 ((P.1 : Int) - 1) = true := Or.inl c2
    refine EV.iload_n (i := 1) dX7_month_15 rfl rfl ?_
    refine EV.iconst dX7_month_16 ?_
    refine EV.sipush dX7_month_17 (by decide) ?_
    refine EV.callSr (M' := mX7_in) (as := [.int (zI (t)), .int (zI (0)), .int (zI (9970))]) (rest := []) ml_X7_45 sm_X7_in co_X7_in dX7_month_20 (c_X7_in (d + 4) t 0 9970 (by omega) (by omega) (by omega)) rfl rfl (Nat.le_of_ble_eq_true rfl) ?_
    refine EV.ifneB (t := 29) dX7_month_23 (by decide) (fun c23 => ?_) (fun c23 => ?_)
    · skip
      have c23r := of_rg c23
      refine EV.iconst dX7_month_29 ?_
      refine EV.istore_n (i := 3) (lv' := [some (.ref (A 0)), some (.int (zI (t))), some (.int (zI (w))), some (.int (zI (0)))]) dX7_month_30 rfl (by decide) rfl ?_
      have L31 : ∀ (n31 : Nat) (sk : Nat) (L : Nat → Int) (x3 : Int) (hh : Hp), (sk ≤ P.1) → (∀ M, vld (moC F P t) (moD P) M P.1 → skp M P.1 < sk → False) → 7 - sk < n31 → x3 = (sk : Int) → hh = HP G h A N Y (F, P, T, K, L, ma, ik) → EV G l mX7_month (d + 6) (fun o h' => o = some (.int (zI (monthR F P t w))) ∧ ∃ la' : Nat → Int, h' = HP G h A N Y (F, P, T, K, la', ma, ik)) 31 [some (.ref (A 0)), some (.int (zI (t))), some (.int (zI (w))), some (.int (zI (x3)))] [] hh 0 0 := by
        intro n31
        induction n31 with
        | zero => intro _ _ _ _ _ _ hm; exact absurd hm (Nat.not_lt_zero _)
        | succ n31 ih31 =>
          intro sk L x3 hh hs hno hm31 e3 eh
          subst e3 eh
          have g0 : (HP G h A N Y (F, P, T, K, L, ma, ik)) (A 0) = some (obj 7 [.int (zI ((F.1 : Int))), .ref (A 1), .ref (A 2), .ref (A 3), .int (zI ((P.1 : Int))), .ref (A 4), .ref (A 5), .int (zI ((T.1 : Int))), .ref (A 6), .int (zI ((K.1 : Int))), .ref (A 7), .ref (A 8), .ref (A 9), .ref (A 10)]) := hGet hA _ _ 0 (by decide)
          have g8 : (HP G h A N Y (F, P, T, K, L, ma, ik)) (A 8) = some (arI G 7 L) := hGet hA _ _ 8 (by decide)
          have hM : ModAt G (HP G h A N Y (F, P, T, K, L, ma, ik)) (A 0) (fun i => A (i + 1)) F P T K L ma ik := hMod hA
          refine EV.aload_n (i := 0) dX7_month_31 rfl rfl ?_
          refine EV.iload_n (i := 1) dX7_month_32 rfl rfl ?_
          refine EV.iload_n (i := 3) dX7_month_33 rfl rfl ?_
          refine EV.callV (M' := mX7_canMonth) (as := [.int (zI (t)), .int (zI ((sk : Int)))]) (rest := []) ml_X7_106 im_X7_canMonth se_X7_canMonth rfl co_X7_canMonth dX7_month_34 g0 (c_X7_canMonth (d + 0) hA hK hW hP hT t (by omega) sk (by omega)) rfl rfl (Nat.le_of_ble_eq_true rfl) (Nat.le_of_ble_eq_true rfl) (Nat.le_of_ble_eq_true rfl) (fun v34 h34 q34 => ?_)
          obtain ⟨b, L', hve, rfl, hbt, hbf⟩ := q34
          subst hve
          refine EV.sts (st' := [.int (zI (bI (b)))]) rfl ?_
          have g0 : (HP G h A N Y (F, P, T, K, L', ma, ik)) (A 0) = some (obj 7 [.int (zI ((F.1 : Int))), .ref (A 1), .ref (A 2), .ref (A 3), .int (zI ((P.1 : Int))), .ref (A 4), .ref (A 5), .int (zI ((T.1 : Int))), .ref (A 6), .int (zI ((K.1 : Int))), .ref (A 7), .ref (A 8), .ref (A 9), .ref (A 10)]) := hGet hA _ _ 0 (by decide)
          have g8 : (HP G h A N Y (F, P, T, K, L', ma, ik)) (A 8) = some (arI G 7 (L')) := hGet hA _ _ 8 (by decide)
          have hM : ModAt G (HP G h A N Y (F, P, T, K, L', ma, ik)) (A 0) (fun i => A (i + 1)) F P T K (L') ma ik := hMod hA
          refine EV.ifneB (t := 46) dX7_month_37 (by decide) (fun c37 => ?_) (fun c37 => ?_)
          · skip
            have hmo : mopt (moC F P t) (moD P) P.1 L' := ⟨(hbt c37).1, fun M hM => by have h1 := (hbt c37).2.1; by_cases h2 : skp M P.1 < sk; exact (hno M hM h2).elim; omega, fun M hM h1 => (hbt c37).2.2 M hM (by have := (hbt c37).2.1; omega)⟩
            refine EV.iload_n (i := 2) dX7_month_46 rfl rfl ?_
            refine EV.ifge (t := 59) dX7_month_47 (by decide) (by omega) (fun c47 => ?_) (fun c47 => ?_)
            · skip
              have hw2 := of_rg (hwy.resolve_left (by omega))
              obtain ⟨v, rfl⟩ : ∃ v : Nat, w = (v : Int) := ⟨w.toNat, by omega⟩
              have hLv := (hmo.1 v (by omega)).1
              refine EV.aload_n (i := 0) dX7_month_59 rfl rfl ?_
              refine EV.getf fl_X7_31 dX7_month_60 g0 rfl ?_
              refine EV.iload_n (i := 2) dX7_month_63 rfl rfl ?_
              refine EV.iald dX7_month_64 g8 (v) (rfl) (by omega) ?_
              refine EV.bipush dX7_month_65 (by decide) ?_
              refine EV.icmp_ge (t := 81) dX7_month_67 (by decide) (by omega) (fun c67 => ?_) (fun c67 => ?_)
              · skip
                refine EV.bipush dX7_month_81 (by decide) ?_
                refine EV.iret rfl dX7_month_83 ?_
                exfalso; omega
              · skip
                refine EV.iload_n (i := 1) dX7_month_70 rfl rfl ?_
                refine EV.aload_n (i := 0) dX7_month_71 rfl rfl ?_
                refine EV.getf fl_X7_31 dX7_month_72 g0 rfl ?_
                refine EV.iload_n (i := 2) dX7_month_75 rfl rfl ?_
                refine EV.iald dX7_month_76 g8 (v) (rfl) (by omega) ?_
                refine EV.iadd dX7_month_77 ?_
                refine EV.goto (t := 83) dX7_month_78 (by decide) ?_
                refine EV.iret rfl dX7_month_83 ?_
                exfalso; omega
            · skip
              have hw3 : w = -1 := by rcases hwy with e | e; exact e; have := of_rg e; omega
              have hsk := skp_le L' P.1
              have hse : skp L' P.1 = sk := by have h1 := (hbt c37).2.1; by_cases h2 : skp L' P.1 < sk; exact (hno L' hmo.1 h2).elim; omega
              refine EV.aload_n (i := 0) dX7_month_50 rfl rfl ?_
              refine EV.getf fl_X7_74 dX7_month_51 g0 rfl ?_
              refine EV.iload_n (i := 3) dX7_month_54 rfl rfl ?_
              refine EV.isub dX7_month_55 ?_
              refine EV.goto (t := 83) dX7_month_56 (by decide) ?_
              refine EV.iret rfl dX7_month_83 ?_
              exact ⟨by rw [← monthR_y hwy c23 hmo, moA, if_pos hw3, hse], _, rfl⟩
          · skip
            have hn := hbf c37
            have hsP : sk < P.1 := by by_cases hq : sk < P.1; exact hq; exact (hn _ (vld_30 _ _ _) (Nat.le_trans (skp_le _ _) (by omega))).elim
            refine EV.iinc (i := 3) (lv' := [some (.ref (A 0)), some (.int (zI (t))), some (.int (zI (w))), some (.int (zI ((sk : Int) + 1)))]) dX7_month_40 rfl (by decide) rfl ?_
            refine EV.goto (t := 31) dX7_month_43 (by decide) ?_
            exact ih31 (sk + 1) _ _ _ (by omega) (fun M hM hs => hn M hM (by omega)) (by omega) (rfl) (rfl)
      exact L31 _ 0 la _ _ (by omega) (fun M _ z => absurd z (Nat.not_lt_zero _)) (Nat.lt_succ_self _) (rfl) (rfl)
    · skip
      have c23r := of_nrg c23
      refine EV.bipush dX7_month_26 (by decide) ?_
      refine EV.iret rfl dX7_month_28 ?_
      exact ⟨by rw [monthR, if_pos hwy, if_neg (by rw [c23]; decide)], _, rfl⟩
  · skip
    refine EV.aload_n (i := 0) dX7_month_5 rfl rfl ?_
    refine EV.iload_n (i := 2) dX7_month_6 rfl rfl ?_
    refine EV.callVr (M' := mX7_isWork) (as := [.int (zI (w))]) (rest := []) ml_X7_97 im_X7_isWork se_X7_isWork rfl co_X7_isWork dX7_month_7 g0 (c_X7_isWork (d + 3) hM hW w (by omega) hP) rfl rfl (Nat.le_of_ble_eq_true rfl) ?_
    refine EV.ifneB (t := 15) dX7_month_10 (by decide) (fun c10 => ?_) (fun c10 => ?_)
    · skip
      have c10r := of_rg c10
      have hwy : w = -1 ∨ rg w 0 ((P.1 : Int) - 1) = true := Or.inr c10
      refine EV.iload_n (i := 1) dX7_month_15 rfl rfl ?_
      refine EV.iconst dX7_month_16 ?_
      refine EV.sipush dX7_month_17 (by decide) ?_
      refine EV.callSr (M' := mX7_in) (as := [.int (zI (t)), .int (zI (0)), .int (zI (9970))]) (rest := []) ml_X7_45 sm_X7_in co_X7_in dX7_month_20 (c_X7_in (d + 4) t 0 9970 (by omega) (by omega) (by omega)) rfl rfl (Nat.le_of_ble_eq_true rfl) ?_
      refine EV.ifneB (t := 29) dX7_month_23 (by decide) (fun c23 => ?_) (fun c23 => ?_)
      · skip
        have c23r := of_rg c23
        refine EV.iconst dX7_month_29 ?_
        refine EV.istore_n (i := 3) (lv' := [some (.ref (A 0)), some (.int (zI (t))), some (.int (zI (w))), some (.int (zI (0)))]) dX7_month_30 rfl (by decide) rfl ?_
        have L31 : ∀ (n31 : Nat) (sk : Nat) (L : Nat → Int) (x3 : Int) (hh : Hp), (sk ≤ P.1) → (∀ M, vld (moC F P t) (moD P) M P.1 → skp M P.1 < sk → False) → 7 - sk < n31 → x3 = (sk : Int) → hh = HP G h A N Y (F, P, T, K, L, ma, ik) → EV G l mX7_month (d + 6) (fun o h' => o = some (.int (zI (monthR F P t w))) ∧ ∃ la' : Nat → Int, h' = HP G h A N Y (F, P, T, K, la', ma, ik)) 31 [some (.ref (A 0)), some (.int (zI (t))), some (.int (zI (w))), some (.int (zI (x3)))] [] hh 0 0 := by
          intro n31
          induction n31 with
          | zero => intro _ _ _ _ _ _ hm; exact absurd hm (Nat.not_lt_zero _)
          | succ n31 ih31 =>
            intro sk L x3 hh hs hno hm31 e3 eh
            subst e3 eh
            have g0 : (HP G h A N Y (F, P, T, K, L, ma, ik)) (A 0) = some (obj 7 [.int (zI ((F.1 : Int))), .ref (A 1), .ref (A 2), .ref (A 3), .int (zI ((P.1 : Int))), .ref (A 4), .ref (A 5), .int (zI ((T.1 : Int))), .ref (A 6), .int (zI ((K.1 : Int))), .ref (A 7), .ref (A 8), .ref (A 9), .ref (A 10)]) := hGet hA _ _ 0 (by decide)
            have g8 : (HP G h A N Y (F, P, T, K, L, ma, ik)) (A 8) = some (arI G 7 L) := hGet hA _ _ 8 (by decide)
            have hM : ModAt G (HP G h A N Y (F, P, T, K, L, ma, ik)) (A 0) (fun i => A (i + 1)) F P T K L ma ik := hMod hA
            refine EV.aload_n (i := 0) dX7_month_31 rfl rfl ?_
            refine EV.iload_n (i := 1) dX7_month_32 rfl rfl ?_
            refine EV.iload_n (i := 3) dX7_month_33 rfl rfl ?_
            refine EV.callV (M' := mX7_canMonth) (as := [.int (zI (t)), .int (zI ((sk : Int)))]) (rest := []) ml_X7_106 im_X7_canMonth se_X7_canMonth rfl co_X7_canMonth dX7_month_34 g0 (c_X7_canMonth (d + 0) hA hK hW hP hT t (by omega) sk (by omega)) rfl rfl (Nat.le_of_ble_eq_true rfl) (Nat.le_of_ble_eq_true rfl) (Nat.le_of_ble_eq_true rfl) (fun v34 h34 q34 => ?_)
            obtain ⟨b, L', hve, rfl, hbt, hbf⟩ := q34
            subst hve
            refine EV.sts (st' := [.int (zI (bI (b)))]) rfl ?_
            have g0 : (HP G h A N Y (F, P, T, K, L', ma, ik)) (A 0) = some (obj 7 [.int (zI ((F.1 : Int))), .ref (A 1), .ref (A 2), .ref (A 3), .int (zI ((P.1 : Int))), .ref (A 4), .ref (A 5), .int (zI ((T.1 : Int))), .ref (A 6), .int (zI ((K.1 : Int))), .ref (A 7), .ref (A 8), .ref (A 9), .ref (A 10)]) := hGet hA _ _ 0 (by decide)
            have g8 : (HP G h A N Y (F, P, T, K, L', ma, ik)) (A 8) = some (arI G 7 (L')) := hGet hA _ _ 8 (by decide)
            have hM : ModAt G (HP G h A N Y (F, P, T, K, L', ma, ik)) (A 0) (fun i => A (i + 1)) F P T K (L') ma ik := hMod hA
            refine EV.ifneB (t := 46) dX7_month_37 (by decide) (fun c37 => ?_) (fun c37 => ?_)
            · skip
              have hmo : mopt (moC F P t) (moD P) P.1 L' := ⟨(hbt c37).1, fun M hM => by have h1 := (hbt c37).2.1; by_cases h2 : skp M P.1 < sk; exact (hno M hM h2).elim; omega, fun M hM h1 => (hbt c37).2.2 M hM (by have := (hbt c37).2.1; omega)⟩
              refine EV.iload_n (i := 2) dX7_month_46 rfl rfl ?_
              refine EV.ifge (t := 59) dX7_month_47 (by decide) (by omega) (fun c47 => ?_) (fun c47 => ?_)
              · skip
                have hw2 := of_rg (hwy.resolve_left (by omega))
                obtain ⟨v, rfl⟩ : ∃ v : Nat, w = (v : Int) := ⟨w.toNat, by omega⟩
                have hLv := (hmo.1 v (by omega)).1
                refine EV.aload_n (i := 0) dX7_month_59 rfl rfl ?_
                refine EV.getf fl_X7_31 dX7_month_60 g0 rfl ?_
                refine EV.iload_n (i := 2) dX7_month_63 rfl rfl ?_
                refine EV.iald dX7_month_64 g8 (v) (rfl) (by omega) ?_
                refine EV.bipush dX7_month_65 (by decide) ?_
                refine EV.icmp_ge (t := 81) dX7_month_67 (by decide) (by omega) (fun c67 => ?_) (fun c67 => ?_)
                · skip
                  refine EV.bipush dX7_month_81 (by decide) ?_
                  refine EV.iret rfl dX7_month_83 ?_
                  exact ⟨by rw [← monthR_y hwy c23 hmo, moA, if_neg (by omega), Int.toNat_natCast, if_neg (by omega)], _, rfl⟩
                · skip
                  refine EV.iload_n (i := 1) dX7_month_70 rfl rfl ?_
                  refine EV.aload_n (i := 0) dX7_month_71 rfl rfl ?_
                  refine EV.getf fl_X7_31 dX7_month_72 g0 rfl ?_
                  refine EV.iload_n (i := 2) dX7_month_75 rfl rfl ?_
                  refine EV.iald dX7_month_76 g8 (v) (rfl) (by omega) ?_
                  refine EV.iadd dX7_month_77 ?_
                  refine EV.goto (t := 83) dX7_month_78 (by decide) ?_
                  refine EV.iret rfl dX7_month_83 ?_
                  exact ⟨by rw [← monthR_y hwy c23 hmo, moA, if_neg (by omega), Int.toNat_natCast, if_pos (by omega)], _, rfl⟩
              · skip
                have hw3 : w = -1 := by rcases hwy with e | e; exact e; have := of_rg e; omega
                have hsk := skp_le L' P.1
                have hse : skp L' P.1 = sk := by have h1 := (hbt c37).2.1; by_cases h2 : skp L' P.1 < sk; exact (hno L' hmo.1 h2).elim; omega
                refine EV.aload_n (i := 0) dX7_month_50 rfl rfl ?_
                refine EV.getf fl_X7_74 dX7_month_51 g0 rfl ?_
                refine EV.iload_n (i := 3) dX7_month_54 rfl rfl ?_
                refine EV.isub dX7_month_55 ?_
                refine EV.goto (t := 83) dX7_month_56 (by decide) ?_
                refine EV.iret rfl dX7_month_83 ?_
                exact ⟨by rw [← monthR_y hwy c23 hmo, moA, if_pos hw3, hse], _, rfl⟩
            · skip
              have hn := hbf c37
              have hsP : sk < P.1 := by by_cases hq : sk < P.1; exact hq; exact (hn _ (vld_30 _ _ _) (Nat.le_trans (skp_le _ _) (by omega))).elim
              refine EV.iinc (i := 3) (lv' := [some (.ref (A 0)), some (.int (zI (t))), some (.int (zI (w))), some (.int (zI ((sk : Int) + 1)))]) dX7_month_40 rfl (by decide) rfl ?_
              refine EV.goto (t := 31) dX7_month_43 (by decide) ?_
              exact ih31 (sk + 1) _ _ _ (by omega) (fun M hM hs => hn M hM (by omega)) (by omega) (rfl) (rfl)
        exact L31 _ 0 la _ _ (by omega) (fun M _ z => absurd z (Nat.not_lt_zero _)) (Nat.lt_succ_self _) (rfl) (rfl)
      · skip
        have c23r := of_nrg c23
        refine EV.bipush dX7_month_26 (by decide) ?_
        refine EV.iret rfl dX7_month_28 ?_
        exact ⟨by rw [monthR, if_pos hwy, if_neg (by rw [c23]; decide)], _, rfl⟩
    · skip
      have c10r := of_nrg c10
      refine EV.iconst dX7_month_13 ?_
      refine EV.iret rfl dX7_month_14 ?_
      exact ⟨by rw [monthR, if_neg (fun z => by rcases z with z | z; exact c2 z; rw [c10] at z; cases z)], _, rfl⟩
end
