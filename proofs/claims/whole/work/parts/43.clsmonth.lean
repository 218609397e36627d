/-- tried dates and the way that they tell -/
def EE (fr : Int) (t L : Nat → Int) (k : Nat) : Prop := ∀ v, v < k → (t v = -6 ∧ L v = 30) ∨ (t v = fr + L v ∧ 0 ≤ L v ∧ L v < 30)
def SS (cn : Nat → Int → Bool) (dj : Nat → Nat → Bool) (n w : Nat) (Lt L : Nat → Int) : Prop := vld cn dj L n ∧ rst cn L n ∧ ∀ v, v < w → L v = Lt v
/-- what the search has made of most and best over the ways S -/
def SR (n : Nat) (fr : Int) (S : (Nat → Int) → Prop) (m : Int) (b : Nat → Int) (m' : Int) (b' : Nat → Int) : Prop :=
  (∀ L, S L → (n : Int) - (skp L n : Int) ≤ m') ∧ ((m' = m ∧ b' = b) ∨ (m < m' ∧ ∃ Lb, EE fr b' Lb n ∧ S Lb ∧ (n : Int) - (skp Lb n : Int) = m' ∧ ∀ L, S L → (n : Int) - (skp L n : Int) = m' → ¬ bef L Lb n))
theorem SR_rg {n : Nat} {fr : Int} {S : (Nat → Int) → Prop} {m m' : Int} {b b' : Nat → Int} (h : SR n fr S m b m' b') (hn : n ≤ 6) (hm : -1 ≤ m ∧ m ≤ 6) : -1 ≤ m' ∧ m' ≤ 6 := by
  rcases h.2 with ⟨e, _⟩ | ⟨h1, Lb, _, _, h2, _⟩
  · omega
  · have := skp_le Lb n
    omega
theorem SR_comp {n : Nat} {fr : Int} {S1 S2 S : (Nat → Int) → Prop} {m m1 m2 : Int} {b b1 b2 : Nat → Int} (hS : ∀ L, S L → S1 L ∨ S2 L) (h1 : ∀ L, S1 L → S L) (h2 : ∀ L, S2 L → S L) (ho : ∀ L1 L2, S1 L1 → S2 L2 → ¬ bef L2 L1 n)
    (a : SR n fr S1 m b m1 b1) (c : SR n fr S2 m1 b1 m2 b2) : SR n fr S m b m2 b2 := by
  have e1 : m ≤ m1 := by rcases a.2 with ⟨e, _⟩ | ⟨e, _⟩ <;> omega
  have e2 : m1 ≤ m2 := by rcases c.2 with ⟨e, _⟩ | ⟨e, _⟩ <;> omega
  refine ⟨fun L hL => ?_, ?_⟩
  · rcases hS L hL with z | z
    · have := a.1 L z; omega
    · exact c.1 L z
  · rcases c.2 with ⟨c1, c2⟩ | ⟨c1, Lb, c2, c3, c4, c5⟩
    · rcases a.2 with ⟨a1, a2⟩ | ⟨a1, Lb, a2, a3, a4, a5⟩
      · exact Or.inl ⟨by omega, by rw [c2, a2]⟩
      · refine Or.inr ⟨by omega, Lb, by rw [c2]; exact a2, h1 Lb a3, by omega, fun L hL hs => ?_⟩
        rcases hS L hL with z | z
        · exact a5 L z (by omega)
        · exact ho Lb L a3 z
    · refine Or.inr ⟨by omega, Lb, c2, h2 Lb c3, c4, fun L hL hs => ?_⟩
      rcases hS L hL with z | z
      · have := a.1 L z; omega
      · exact c5 L z hs
theorem SR_none {n : Nat} {fr : Int} {S : (Nat → Int) → Prop} {m : Int} {b : Nat → Int} (h : ∀ L, S L → (n : Int) - (skp L n : Int) ≤ m) : SR n fr S m b m b := ⟨h, Or.inl ⟨rfl, rfl⟩⟩
theorem SR_prune {cn : Nat → Int → Bool} {dj : Nat → Nat → Bool} {n w done : Nat} {fr m : Int} {b Lt : Nat → Int} (hw : w ≤ n) (hd : done + skp Lt w = w) (h : (done : Int) + n - w ≤ m) : SR n fr (SS cn dj n w Lt) m b m b := SR_none (fun L hL => by
  have h1 := skp_mono (L := L) hw
  have h2 := skp_cg hL.2.2
  omega)
theorem SR_leaf {cn : Nat → Int → Bool} {dj : Nat → Nat → Bool} {n done : Nat} {fr m : Int} {b t Lt : Nat → Int} (hE : EE fr t Lt n) (hv : vld cn dj Lt n) (hr : rst cn Lt n) (hd : done + skp Lt n = n) (h : m < (done : Int)) : SR n fr (SS cn dj n n Lt) m b (done : Int) t := by
  refine ⟨fun L hL => ?_, Or.inr ⟨h, Lt, hE, ⟨hv, hr, fun _ _ => rfl⟩, by omega, fun L hL _ hb => ?_⟩⟩
  · rw [skp_cg hL.2.2]; omega
  · obtain ⟨v, h1, h2, h3⟩ := hb
    rw [hL.2.2 v h1] at h3
    omega
theorem ord_no {n w : Nat} {L1 L2 : Nat → Int} (h : ∀ v, v < w → L1 v = L2 v) (h2 : L1 w < L2 w) : ¬ bef L2 L1 n := fun ⟨v, a, b, c⟩ => by
  by_cases e : v < w
  · rw [h v e] at c; omega
  · by_cases e2 : v = w
    · subst e2; omega
    · have := b w (by omega); omega
/-- the choices of a work -/
def CHP (cn : Nat → Int → Bool) (fr : Int) (w : Nat) (c : Nat) (ch : Nat → Int) : Prop :=
  c ≤ 6 ∧ (∀ i, i < c → ∃ j : Nat, j < 30 ∧ ch (6 * w + i) = fr + (j : Int) ∧ cn w (j : Int) = true ∧ cnt (fun d : Nat => cn w (d : Int)) j = i) ∧ ∀ j : Nat, j < 30 → cn w (j : Int) = true → cnt (fun d : Nat => cn w (d : Int)) j < 6 → cnt (fun d : Nat => cn w (d : Int)) j < c
theorem cnt_lt2 {f : Nat → Bool} {j k : Nat} (hf : f j = true) : j < k → cnt f j < cnt f k := by
  intro h
  induction k with
  | zero => omega
  | succ k ih =>
    rw [cnt_s]
    by_cases e : j = k
    · subst e; rw [if_pos hf]; omega
    · have := ih (by omega); omega
theorem cnt_inj {f : Nat → Bool} {j k : Nat} (h1 : f j = true) (h2 : f k = true) (h : cnt f j = cnt f k) : j = k := by
  rcases Nat.lt_trichotomy j k with a | a | a
  · have := cnt_lt2 h1 a; omega
  · exact a
  · have := cnt_lt2 h2 a; omega
theorem cnt_lt3 {f : Nat → Bool} {j k : Nat} (h : cnt f j < cnt f k) : j < k := by
  rcases Nat.lt_or_ge j k with a | a
  · exact a
  · have : cnt f k ≤ cnt f j := by
      clear h
      induction j with
      | zero => rw [show k = 0 by omega]; omega
      | succ j ih =>
        by_cases e : k = j + 1
        · rw [e]; omega
        · have := ih (by omega)
          rw [cnt_s]; omega
    omega
theorem EE_cg {fr : Int} {t t' L : Nat → Int} {k : Nat} (h : EE fr t L k) (ht : ∀ v, v < k → t' v = t v) : EE fr t' L k := fun v hv => by rw [ht v hv]; exact h v hv
theorem EE_y {fr : Int} {t L : Nat → Int} {w : Nat} {j : Nat} (h : EE fr t L w) (hj : j < 30) : EE fr (uI t w (fr + (j : Int))) (uI L w (j : Int)) (w + 1) := fun v hv => by
  by_cases e : v = w
  · subst e; rw [uI_s, uI_s]; right; omega
  · rw [uI_n _ _ e, uI_n _ _ e]; exact h v (by omega)
theorem EE_n {fr : Int} {t L : Nat → Int} {w : Nat} (h : EE fr t L w) : EE fr (uI t w (-6)) (uI L w 30) (w + 1) := fun v hv => by
  by_cases e : v = w
  · subst e; rw [uI_s, uI_s]; left; omega
  · rw [uI_n _ _ e, uI_n _ _ e]; exact h v (by omega)
theorem EE_r {fr : Int} {t L : Nat → Int} {w v : Nat} (h : EE fr t L w) (hf : 0 ≤ fr ∧ fr ≤ 9970) (hv : v < w) : -6 ≤ t v ∧ t v ≤ 10000 := by
  rcases h v hv with ⟨h1, h2⟩ | ⟨h1, h2, h3⟩ <;> omega
theorem EE_i {fr : Int} {t L : Nat → Int} {w v : Nat} (h : EE fr t L w) (hf : 0 ≤ fr ∧ fr ≤ 9970) (hv : v < w) : inR (t v) := by
  have := EE_r h hf hv
  exact ⟨by omega, by omega⟩
/-- free or not, in offsets -/
theorem free_eq {dj : Nat → Nat → Bool} {fr : Int} {t L : Nat → Int} {w j : Nat} (h : EE fr t L w) (hf : 0 ≤ fr) (hj : j < 30) : alln (fun u => !(decide (t u = fr + (j : Int))) || dj u w) w = alln (fun u => !(decide (L u = (j : Int))) || dj u w) w := by
  have hd : ∀ u, u < w → decide (t u = fr + (j : Int)) = decide (L u = (j : Int)) := fun u hu => by
    rcases h u hu with ⟨h1, h2⟩ | ⟨h1, h2, h3⟩
    · rw [decide_eq_false (by omega), decide_eq_false (by omega)]
    · by_cases e : L u = (j : Int)
      · rw [decide_eq_true e, decide_eq_true (by omega)]
      · rw [decide_eq_false e, decide_eq_false (by omega)]
  cases hz : alln (fun u => !(decide (L u = (j : Int))) || dj u w) w with
  | true => exact alln_iff.mpr (fun u hu => by have := alln_iff.mp hz u hu; show (!(decide (t u = fr + (j : Int))) || dj u w) = true; rw [hd u hu]; exact this)
  | false =>
    cases hy : alln (fun u => !(decide (t u = fr + (j : Int))) || dj u w) w with
    | false => rfl
    | true => rw [← hz]; exact (alln_iff.mpr (fun u hu => by have := alln_iff.mp hy u hu; show (!(decide (L u = (j : Int))) || dj u w) = true; rw [← hd u hu]; exact this)).symm
def SX (cn : Nat → Int → Bool) (dj : Nat → Nat → Bool) (n w : Nat) (fr : Int) (ch Lt : Nat → Int) (i : Nat) (L : Nat → Int) : Prop := SS cn dj n w Lt L ∧ ∃ k, k < i ∧ fr + L w = ch (6 * w + k)
theorem SX_0 {cn : Nat → Int → Bool} {dj : Nat → Nat → Bool} {n w : Nat} {fr m : Int} {ch Lt b : Nat → Int} : SR n fr (SX cn dj n w fr ch Lt 0) m b m b := SR_none (fun L hL => by obtain ⟨_, k, hk, _⟩ := hL; exact absurd hk (Nat.not_lt_zero _))
theorem vld_u {cn : Nat → Int → Bool} {dj : Nat → Nat → Bool} {w : Nat} {L : Nat → Int} {x : Int} (hv : vld cn dj L w) (h1 : 0 ≤ x ∧ x ≤ 30) (h2 : x < 30 → fitB cn dj L w x = true) : vld cn dj (uI L w x) (w + 1) := by
  have ha : ∀ u, u < w → L u = uI L w x u := fun u hu => (uI_n _ _ (by omega)).symm
  refine vld_s (vld_cg ha hv) (by rw [uI_s]; exact h1) ?_
  rw [uI_s, ← fitB_cg ha]; exact h2
theorem rst_u {cn : Nat → Int → Bool} {w : Nat} {L : Nat → Int} {x : Int} (hr : rst cn L w) (h : x < 30 → cnt (fun d : Nat => cn w (d : Int)) x.toNat < 6) : rst cn (uI L w x) (w + 1) := fun v hv => by
  by_cases e : v = w
  · subst e; rw [uI_s]; exact h
  · rw [uI_n _ _ e]; exact hr v (by omega)
theorem skp_u {w done : Nat} {L : Nat → Int} {x : Int} (hd : done + skp L w = w) : skp (uI L w x) (w + 1) + done = w + (if x = 30 then 1 else 0) := by
  rw [skp_s, uI_s, skp_cg (M := L) (fun u hu => uI_n _ _ (by omega))]
  omega
theorem SX_no {cn : Nat → Int → Bool} {dj : Nat → Nat → Bool} {n w i j : Nat} {fr m m1 : Int} {ch Lt b b1 : Nat → Int} (hw : w < n) (a : SR n fr (SX cn dj n w fr ch Lt i) m b m1 b1) (hj : j < 30) (hc : ch (6 * w + i) = fr + (j : Int)) (hf : alln (fun u => !(decide (Lt u = (j : Int))) || dj u w) w = false) : SR n fr (SX cn dj n w fr ch Lt (i + 1)) m b m1 b1 := by
  have hno : ∀ L, SS cn dj n w Lt L → fr + L w = ch (6 * w + i) → False := fun L hL e => by
    have e2 : L w = (j : Int) := by omega
    have h1 := (hL.1 w hw).2 (by omega)
    rw [e2, fitB_cg hL.2.2] at h1
    unfold fitB at h1
    rw [hf, Bool.and_false] at h1
    cases h1
  refine SR_comp (S2 := fun _ => False) (fun L hL => Or.inl ?_) (fun L hL => ?_) (fun L hL => hL.elim) (fun L1 L2 _ h => h.elim) a (SR_none (fun L h => h.elim))
  · obtain ⟨h1, k, hk, he⟩ := hL
    by_cases e : k = i
    · subst e; exact (hno L h1 he).elim
    · exact ⟨h1, k, by omega, he⟩
  · obtain ⟨h1, k, hk, he⟩ := hL
    exact ⟨h1, k, by omega, he⟩
theorem SX_yes {cn : Nat → Int → Bool} {dj : Nat → Nat → Bool} {n w i j c : Nat} {fr m m1 m2 : Int} {ch Lt b b1 b2 : Nat → Int} (hch : CHP cn fr w c ch) (hi : i < c) (a : SR n fr (SX cn dj n w fr ch Lt i) m b m1 b1) (hc : ch (6 * w + i) = fr + (j : Int)) (hji : cnt (fun d : Nat => cn w (d : Int)) j = i) (s : SR n fr (SS cn dj n (w + 1) (uI Lt w (j : Int))) m1 b1 m2 b2) : SR n fr (SX cn dj n w fr ch Lt (i + 1)) m b m2 b2 := by
  refine SR_comp (fun L hL => ?_) (fun L hL => ?_) (fun L hL => ?_) (fun L1 L2 h1 h2 => ?_) a s
  · obtain ⟨h1, k, hk, he⟩ := hL
    by_cases e : k = i
    · subst e
      refine Or.inr ⟨h1.1, h1.2.1, fun v hv => ?_⟩
      by_cases e2 : v = w
      · subst e2; rw [uI_s]; omega
      · rw [uI_n _ _ e2]; exact h1.2.2 v (by omega)
    · exact Or.inl ⟨h1, k, by omega, he⟩
  · obtain ⟨h1, k, hk, he⟩ := hL
    exact ⟨h1, k, by omega, he⟩
  · refine ⟨⟨hL.1, hL.2.1, fun v hv => ?_⟩, i, by omega, ?_⟩
    · have := hL.2.2 v (by omega)
      rw [uI_n _ _ (by omega)] at this; exact this
    · have := hL.2.2 w (by omega)
      rw [uI_s] at this; omega
  · obtain ⟨h1, k, hk, he⟩ := h1
    refine ord_no (w := w) (fun v hv => ?_) ?_
    · have := h2.2.2 v (by omega)
      rw [uI_n _ _ (by omega)] at this
      rw [this]; exact h1.2.2 v hv
    · have e1 := h2.2.2 w (by omega)
      rw [uI_s] at e1
      obtain ⟨j', _, k2, k3, k4⟩ := hch.2.1 k (by omega)
      have := cnt_lt3 (f := fun d : Nat => cn w (d : Int)) (j := j') (k := j) (by omega)
      omega
theorem SX_end {cn : Nat → Int → Bool} {dj : Nat → Nat → Bool} {n w c : Nat} {fr m m1 m2 : Int} {ch Lt b b1 b2 : Nat → Int} (hw : w < n) (hch : CHP cn fr w c ch) (a : SR n fr (SX cn dj n w fr ch Lt c) m b m1 b1) (s : SR n fr (SS cn dj n (w + 1) (uI Lt w 30)) m1 b1 m2 b2) : SR n fr (SS cn dj n w Lt) m b m2 b2 := by
  refine SR_comp (fun L hL => ?_) (fun L hL => hL.1) (fun L hL => ?_) (fun L1 L2 h1 h2 => ?_) a s
  · by_cases e : L w = 30
    · refine Or.inr ⟨hL.1, hL.2.1, fun v hv => ?_⟩
      by_cases e2 : v = w
      · subst e2; rw [uI_s]; exact e
      · rw [uI_n _ _ e2]; exact hL.2.2 v (by omega)
    · have h1 := (hL.1 w hw).1
      have h30 : L w < 30 := by omega
      have h2 := (fitB_iff.mp ((hL.1 w hw).2 h30)).1
      have h3 := hL.2.1 w hw h30
      obtain ⟨j, hj⟩ : ∃ j : Nat, L w = (j : Int) := ⟨(L w).toNat, by omega⟩
      rw [hj] at h2 h3
      rw [Int.toNat_natCast] at h3
      have h4 := hch.2.2 j (by omega) h2 h3
      obtain ⟨j', k1, k2, k3, k4⟩ := hch.2.1 _ h4
      obtain rfl : j' = j := cnt_inj (f := fun d : Nat => cn w (d : Int)) k3 h2 k4
      exact Or.inl ⟨hL, _, h4, by rw [k2, hj]⟩
  · exact ⟨hL.1, hL.2.1, fun v hv => by have := hL.2.2 v (by omega); rw [uI_n _ _ (by omega)] at this; exact this⟩
  · obtain ⟨h1, k, hk, he⟩ := h1
    refine ord_no (w := w) (fun v hv => ?_) ?_
    · have := h2.2.2 v (by omega)
      rw [uI_n _ _ (by omega)] at this
      rw [this]; exact h1.2.2 v hv
    · have e1 := h2.2.2 w (by omega)
      rw [uI_s] at e1
      obtain ⟨j', k0, k2, k3, k4⟩ := hch.2.1 k hk
      omega
theorem CHP_cg {cn : Nat → Int → Bool} {fr : Int} {w c : Nat} {ch ch' : Nat → Int} (h : CHP cn fr w c ch) (he : ∀ x, (6 * w ≤ x ∧ x < 6 * w + 6) → ch' x = ch x) : CHP cn fr w c ch' := by
  refine ⟨h.1, fun i hi => ?_, h.2.2⟩
  obtain ⟨j, h1, h2, h3⟩ := h.2.1 i hi
  have := h.1
  exact ⟨j, h1, by rw [he _ (by omega)]; exact h2, h3⟩
theorem SR_top {cn : Nat → Int → Bool} {dj : Nat → Nat → Bool} {n : Nat} {fr m' : Int} {Lt b b' : Nat → Int} (s : SR n fr (SS cn dj n 0 Lt) (-1) b m' b') : ∃ Lb, EE fr b' Lb n ∧ ropt cn dj n Lb ∧ (n : Int) - (skp Lb n : Int) = m' := by
  have h0 : SS cn dj n 0 Lt (fun _ => 30) := ⟨vld_30 _ _ _, fun _ _ h => absurd h (by decide : ¬ (30 : Int) < 30), fun v hv => absurd hv (Nat.not_lt_zero _)⟩
  have h1 := s.1 _ h0
  have h2 := skp_le (fun _ => 30) n
  rcases s.2 with ⟨e, _⟩ | ⟨_, Lb, e1, e2, e3, e4⟩
  · omega
  · refine ⟨Lb, e1, ⟨e2.1, fun M hM hr => ?_⟩, e3⟩
    have hS : SS cn dj n 0 Lt M := ⟨hM, hr, fun v hv => absurd hv (Nat.not_lt_zero _)⟩
    have := s.1 M hS
    exact ⟨by omega, fun hq => e4 M hS (by omega)⟩
section
variable {G : GG} {l : Launch}
variable {h : Hp} {A : Nat → Nat} {N : Nat} {K : PD} {F : FK} {P : PL} {T : ST} {V : Nat → Int} {O : MO} {im : Nat → Option Nat} {IL : Nat → LQ} {X : MX}
set_option maxHeartbeats 4000000 in
set_option maxRecDepth 20000 in
theorem c_X2_isFree (d : Nat) (hA : inA A N) (hP : WFP P) (w : Nat) (x : Int) (hw : w < P.1) (hx : inR x) (hpe : ∀ u, u < P.1 → O.2.1 u = (P.2.2 u : Int)) (htr : ∀ u, u < w → inR (O.2.2.2.2.1 u)) : CT G l mX2_isFree (d + 1) 0 0 [.ref (A 27), .int (zI ((w : Int))), .int (zI (x))] (HP G h A N (K, (F, P, T, V), O, im, IL) X) (RQ (HP G h A N (K, (F, P, T, V), O, im, IL) X) (bI (alln (fun u => !(decide (O.2.2.2.2.1 u = x)) || moD P u w) w))) := by
  refine CT.of (by decide) (Nat.le_of_ble_eq_true rfl) (List.forall_mem_cons.mpr ⟨rfl, List.forall_mem_cons.mpr ⟨rfl, List.forall_mem_cons.mpr ⟨rfl, fun _ h => absurd h List.not_mem_nil⟩⟩⟩) ?_
  refine EV.lvs (lv' := [some (.ref (A 27)), some (.int (zI ((w : Int)))), some (.int (zI (x))), none]) rfl ?_
  have g27 : (HP G h A N (K, (F, P, T, V), O, im, IL) X) (A 27) = some (obj 2 [.int (zI (O.1.1)), .int (zI (O.1.2)), .ref (A 28), .ref (A 29), .ref (A 30), .ref (A 31), .ref (A 32)]) := hGet hA _ _ 27 (by decide)
  have g28 : (HP G h A N (K, (F, P, T, V), O, im, IL) X) (A 28) = some (arI G 6 O.2.1) := hGet hA _ _ 28 (by decide)
  have g31 : (HP G h A N (K, (F, P, T, V), O, im, IL) X) (A 31) = some (arI G 6 O.2.2.2.2.1) := hGet hA _ _ 31 (by decide)
  have hP6 := hP.1
  refine EV.iconst dX2_isFree_0 ?_
  refine EV.istore_n (i := 3) (lv' := [some (.ref (A 27)), some (.int (zI ((w : Int)))), some (.int (zI (x))), some (.int (zI (0)))]) dX2_isFree_1 rfl (by decide) rfl ?_
  have L2 : ∀ (n2 : Nat) (v : Nat) (x3 : Int), (v ≤ w) → (alln (fun u => !(decide (O.2.2.2.2.1 u = x)) || moD P u w) v = true) → w - v < n2 → x3 = (v : Int) → EV G l mX2_isFree (d + 1) (RQ (HP G h A N (K, (F, P, T, V), O, im, IL) X) (bI (alln (fun u => !(decide (O.2.2.2.2.1 u = x)) || moD P u w) w))) 2 [some (.ref (A 27)), some (.int (zI ((w : Int)))), some (.int (zI (x))), some (.int (zI (x3)))] [] (HP G h A N (K, (F, P, T, V), O, im, IL) X) 0 0 := by
    intro n2
    induction n2 with
    | zero => intro _ _ _ _ hm; exact absurd hm (Nat.not_lt_zero _)
    | succ n2 ih2 =>
      intro v x3 hv hal hm2 e3
      subst e3
      refine EV.iload_n (i := 3) dX2_isFree_2 rfl rfl ?_
      refine EV.iload_n (i := 1) dX2_isFree_3 rfl rfl ?_
      refine EV.icmp_ge (t := 41) dX2_isFree_4 (by decide) (by omega) (fun c4 => ?_) (fun c4 => ?_)
      · skip
        obtain rfl : v = w := by omega
        refine EV.iconst dX2_isFree_41 ?_
        refine EV.zret rfl (by decide) dX2_isFree_42 ?_
        exact rQ (bI_t hal)
      · skip
        have htv := htr v (by omega)
        have hpv := (hP.2 v (by omega)).2
        have hpw := (hP.2 w (by omega)).2
        refine EV.aload_n (i := 0) dX2_isFree_7 rfl rfl ?_
        refine EV.getf fl_X2_21 dX2_isFree_8 g27 rfl ?_
        refine EV.iload_n (i := 3) dX2_isFree_11 rfl rfl ?_
        refine EV.iald dX2_isFree_12 g31 (v) (rfl) (by omega) ?_
        refine EV.iload_n (i := 2) dX2_isFree_13 rfl rfl ?_
        refine EV.icmp_ne (t := 35) dX2_isFree_14 (by decide) (by omega) (fun c14 => ?_) (fun c14 => ?_)
        · skip
          refine EV.iinc (i := 3) (lv' := [some (.ref (A 27)), some (.int (zI ((w : Int)))), some (.int (zI (x))), some (.int (zI ((v : Int) + 1)))]) dX2_isFree_35 rfl (by decide) rfl ?_
          refine EV.goto (t := 2) dX2_isFree_38 (by decide) ?_
          exact ih2 (v + 1) _ (by omega) (alln_s1 hal (show (!(decide (O.2.2.2.2.1 v = x)) || moD P v w) = true by rw [decide_eq_false c14]; rfl)) (by omega) (by rfl)
        · skip
          refine EV.aload_n (i := 0) dX2_isFree_17 rfl rfl ?_
          refine EV.getf fl_X2_9 dX2_isFree_18 g27 rfl ?_
          refine EV.iload_n (i := 3) dX2_isFree_21 rfl rfl ?_
          refine EV.iald dX2_isFree_22 g28 (v) (rfl) (by omega) ?_
          refine EV.aload_n (i := 0) dX2_isFree_23 rfl rfl ?_
          refine EV.getf fl_X2_9 dX2_isFree_24 g27 rfl ?_
          refine EV.iload_n (i := 1) dX2_isFree_27 rfl rfl ?_
          refine EV.iald dX2_isFree_28 g28 (w) (rfl) (by omega) ?_
          refine EV.iandW dX2_isFree_29 ?_
          refine EV.ifeqW (t := 35) dX2_isFree_30 (by decide) (fun c30 => ?_) (fun c30 => ?_)
          · skip
            rw [hpe v (by omega), hpe w (by omega)] at c30
            refine EV.iinc (i := 3) (lv' := [some (.ref (A 27)), some (.int (zI ((w : Int)))), some (.int (zI (x))), some (.int (zI ((v : Int) + 1)))]) dX2_isFree_35 rfl (by decide) rfl ?_
            refine EV.goto (t := 2) dX2_isFree_38 (by decide) ?_
            exact ih2 (v + 1) _ (by omega) (alln_s1 hal (show (!(decide (O.2.2.2.2.1 v = x)) || moD P v w) = true by rw [show moD P v w = true from decide_eq_true ((and0 _ (by omega) _ (by omega)).mp c30), Bool.or_true])) (by omega) (by rfl)
          · skip
            rw [hpe v (by omega), hpe w (by omega)] at c30
            refine EV.iconst dX2_isFree_33 ?_
            refine EV.zret rfl (by decide) dX2_isFree_34 ?_
            exact rQ (bI_f (alln_f (i := v) (by omega) (show (!(decide (O.2.2.2.2.1 v = x)) || moD P v w) = false by rw [decide_eq_true c14, show moD P v w = false from decide_eq_false (fun z => c30 ((and0 _ (by omega) _ (by omega)).mpr z))]; rfl)))
  exact L2 _ 0 _ (by omega) (rfl) (Nat.lt_succ_self _) (by rfl)
set_option maxHeartbeats 4000000 in
set_option maxRecDepth 20000 in
theorem c_X2_keep (d : Nat) (hA : inA A N) (dn : Int) : CT G l mX2_keep (d + 2) 0 0 [.ref (A 27), .int (zI (dn))] (HP G h A N (K, (F, P, T, V), O, im, IL) X) (fun o h' => o = none ∧ h' = HP G h A N (K, (F, P, T, V), ((O.1.1, dn), O.2.1, O.2.2.1, O.2.2.2.1, O.2.2.2.2.1, O.2.2.2.2.1), im, IL) X) := by
  refine CT.of (by decide) (Nat.le_of_ble_eq_true rfl) (List.forall_mem_cons.mpr ⟨rfl, List.forall_mem_cons.mpr ⟨rfl, fun _ h => absurd h List.not_mem_nil⟩⟩) ?_
  refine EV.lvs (lv' := [some (.ref (A 27)), some (.int (zI (dn)))]) rfl ?_
  have g27 : (HP G h A N (K, (F, P, T, V), O, im, IL) X) (A 27) = some (obj 2 [.int (zI (O.1.1)), .int (zI (O.1.2)), .ref (A 28), .ref (A 29), .ref (A 30), .ref (A 31), .ref (A 32)]) := hGet hA _ _ 27 (by decide)
  have g31 : (HP G h A N (K, (F, P, T, V), O, im, IL) X) (A 31) = some (arI G 6 O.2.2.2.2.1) := hGet hA _ _ 31 (by decide)
  have g32 : (HP G h A N (K, (F, P, T, V), O, im, IL) X) (A 32) = some (arI G 6 O.2.2.2.2.2) := hGet hA _ _ 32 (by decide)
  refine EV.aload_n (i := 0) dX2_keep_0 rfl rfl ?_
  refine EV.iload_n (i := 1) dX2_keep_1 rfl rfl ?_
  refine EV.putf (fs' := [.int (zI (O.1.1)), .int (zI (dn)), .ref (A 28), .ref (A 29), .ref (A 30), .ref (A 31), .ref (A 32)]) fp_X2_48 dX2_keep_2 g27 (Nat.le_of_ble_eq_true rfl) rfl rfl rfl ?_
  refine EV.hps (h' := HP G h A N (K, (F, P, T, V), ((O.1.1, dn), O.2.1, O.2.2.1, O.2.2.2.1, O.2.2.2.2.1, O.2.2.2.2.2), im, IL) X) (wO0 hA O.1.1 dn) ?_
  have g27 : (HP G h A N (K, (F, P, T, V), ((O.1.1, dn), O.2.1, O.2.2.1, O.2.2.2.1, O.2.2.2.2.1, O.2.2.2.2.2), im, IL) X) (A 27) = some (obj 2 [.int (zI (O.1.1)), .int (zI (dn)), .ref (A 28), .ref (A 29), .ref (A 30), .ref (A 31), .ref (A 32)]) := hGet hA _ _ 27 (by decide)
  have g31 : (HP G h A N (K, (F, P, T, V), ((O.1.1, dn), O.2.1, O.2.2.1, O.2.2.2.1, O.2.2.2.2.1, O.2.2.2.2.2), im, IL) X) (A 31) = some (arI G 6 O.2.2.2.2.1) := hGet hA _ _ 31 (by decide)
  have g32 : (HP G h A N (K, (F, P, T, V), ((O.1.1, dn), O.2.1, O.2.2.1, O.2.2.2.1, O.2.2.2.2.1, O.2.2.2.2.2), im, IL) X) (A 32) = some (arI G 6 O.2.2.2.2.2) := hGet hA _ _ 32 (by decide)
  refine EV.aload_n (i := 0) dX2_keep_5 rfl rfl ?_
  refine EV.getf fl_X2_21 dX2_keep_6 g27 rfl ?_
  refine EV.iconst dX2_keep_9 ?_
  refine EV.aload_n (i := 0) dX2_keep_10 rfl rfl ?_
  refine EV.getf fl_X2_24 dX2_keep_11 g27 rfl ?_
  refine EV.iconst dX2_keep_14 ?_
  refine EV.bipush dX2_keep_15 (by decide) ?_
  refine EV.copyA ml_X2_77 sm_COPY dX2_keep_17 g31 g32 (N := 6) (by decide) (by decide) ?_
  refine EV.hps (h' := HP G h A N (K, (F, P, T, V), ((O.1.1, dn), O.2.1, O.2.2.1, O.2.2.2.1, O.2.2.2.2.1, O.2.2.2.2.1), im, IL) X) (wO5 hA _) ?_
  have g27 : (HP G h A N (K, (F, P, T, V), ((O.1.1, dn), O.2.1, O.2.2.1, O.2.2.2.1, O.2.2.2.2.1, O.2.2.2.2.1), im, IL) X) (A 27) = some (obj 2 [.int (zI (O.1.1)), .int (zI (dn)), .ref (A 28), .ref (A 29), .ref (A 30), .ref (A 31), .ref (A 32)]) := hGet hA _ _ 27 (by decide)
  have g31 : (HP G h A N (K, (F, P, T, V), ((O.1.1, dn), O.2.1, O.2.2.1, O.2.2.2.1, O.2.2.2.2.1, O.2.2.2.2.1), im, IL) X) (A 31) = some (arI G 6 O.2.2.2.2.1) := hGet hA _ _ 31 (by decide)
  have g32 : (HP G h A N (K, (F, P, T, V), ((O.1.1, dn), O.2.1, O.2.2.1, O.2.2.2.1, O.2.2.2.2.1, O.2.2.2.2.1), im, IL) X) (A 32) = some (arI G 6 O.2.2.2.2.1) := hGet hA _ _ 32 (by decide)
  refine EV.vret rfl dX2_keep_20 ?_
  exact ⟨rfl, rfl⟩
set_option maxHeartbeats 4000000 in
set_option maxRecDepth 20000 in
theorem c_X2_collect (d : Nat) (hA : inA A N) (hK : WFK K) (hW : WF F) (hP : WFP P) (hT : WFT T) (w : Nat) (fr : Int) (hw : w < P.1) (hfr : 0 ≤ fr ∧ fr ≤ 9970) : CT G l mX2_collect (d + 5) 0 0 [.ref (A 27), .ref (A 14), .int (zI ((w : Int))), .int (zI (fr))] (HP G h A N (K, (F, P, T, V), O, im, IL) X) (fun o h' => o = none ∧ ∃ (c : Nat) (ch' : Nat → Int), CHP (moC F P fr) fr w c ch' ∧ (∀ x, (x < 6 * w ∨ 6 * w + 6 ≤ x) → ch' x = O.2.2.2.1 x) ∧ h' = HP G h A N (K, (F, P, T, V), (O.1, O.2.1, uI O.2.2.1 w (c : Int), ch', O.2.2.2.2), im, IL) X) := by
  refine CT.of (by decide) (Nat.le_of_ble_eq_true rfl) (List.forall_mem_cons.mpr ⟨rfl, List.forall_mem_cons.mpr ⟨rfl, List.forall_mem_cons.mpr ⟨rfl, List.forall_mem_cons.mpr ⟨rfl, fun _ h => absurd h List.not_mem_nil⟩⟩⟩⟩) ?_
  refine EV.lvs (lv' := [some (.ref (A 27)), some (.ref (A 14)), some (.int (zI ((w : Int)))), some (.int (zI (fr))), none, none]) rfl ?_
  have g14 : (HP G h A N (K, (F, P, T, V), O, im, IL) X) (A 14) = some (obj 1 [.ref (A 15), .ref (A 20), .ref (A 23)]) := hGet hA _ _ 14 (by decide)
  have g27 : (HP G h A N (K, (F, P, T, V), O, im, IL) X) (A 27) = some (obj 2 [.int (zI (O.1.1)), .int (zI (O.1.2)), .ref (A 28), .ref (A 29), .ref (A 30), .ref (A 31), .ref (A 32)]) := hGet hA _ _ 27 (by decide)
  have g29 : (HP G h A N (K, (F, P, T, V), O, im, IL) X) (A 29) = some (arI G 6 O.2.2.1) := hGet hA _ _ 29 (by decide)
  have g30 : (HP G h A N (K, (F, P, T, V), O, im, IL) X) (A 30) = some (arI G 36 O.2.2.2.1) := hGet hA _ _ 30 (by decide)
  have hP6 := hP.1
  have hT6 := hT.1
  have hth := hW.1
  have hF : FolkAt G (HP G h A N (K, (F, P, T, V), O, im, IL) X) F (A 15) (A 16) (A 17) (A 18) (A 19) V := hFolk hA
  refine EV.iconst dX2_collect_0 ?_
  refine EV.istore (i := 4) (lv' := [some (.ref (A 27)), some (.ref (A 14)), some (.int (zI ((w : Int)))), some (.int (zI (fr))), some (.int (zI (0))), none]) dX2_collect_1 (by decide) rfl ?_
  refine EV.iload_n (i := 3) dX2_collect_3 rfl rfl ?_
  refine EV.istore (i := 5) (lv' := [some (.ref (A 27)), some (.ref (A 14)), some (.int (zI ((w : Int)))), some (.int (zI (fr))), some (.int (zI (0))), some (.int (zI (fr)))]) dX2_collect_4 (by decide) rfl ?_
  have L6 : ∀ (n6 : Nat) (k : Nat) (c : Nat) (ch : Nat → Int) (x4 x5 : Int) (hh : Hp), (k ≤ 30) → (c ≤ 6) → (c = cnt (fun d : Nat => moC F P fr w (d : Int)) k) → (∀ i, i < c → ∃ j : Nat, j < k ∧ ch (6 * w + i) = fr + (j : Int) ∧ moC F P fr w (j : Int) = true ∧ cnt (fun d : Nat => moC F P fr w (d : Int)) j = i) → (∀ x, (x < 6 * w ∨ 6 * w + 6 ≤ x) → ch x = O.2.2.2.1 x) → 30 - k < n6 → x4 = (c : Int) → x5 = (fr + (k : Int)) → hh = HP G h A N (K, (F, P, T, V), ((O.1.1, O.1.2), O.2.1, O.2.2.1, ch, O.2.2.2.2.1, O.2.2.2.2.2), im, IL) X → EV G l mX2_collect (d + 5) (fun o h' => o = none ∧ ∃ (c : Nat) (ch' : Nat → Int), CHP (moC F P fr) fr w c ch' ∧ (∀ x, (x < 6 * w ∨ 6 * w + 6 ≤ x) → ch' x = O.2.2.2.1 x) ∧ h' = HP G h A N (K, (F, P, T, V), (O.1, O.2.1, uI O.2.2.1 w (c : Int), ch', O.2.2.2.2), im, IL) X) 6 [some (.ref (A 27)), some (.ref (A 14)), some (.int (zI ((w : Int)))), some (.int (zI (fr))), some (.int (zI (x4))), some (.int (zI (x5)))] [] hh 0 0 := by
    intro n6
    induction n6 with
    | zero => intro _ _ _ _ _ _ _ _ _ _ _ hm; exact absurd hm (Nat.not_lt_zero _)
    | succ n6 ih6 =>
      intro k c ch x4 x5 hh hk hc6 hcn hcs hof hm6 e4 e5 eh
      subst e4 e5 eh
      have g14 : (HP G h A N (K, (F, P, T, V), ((O.1.1, O.1.2), O.2.1, O.2.2.1, ch, O.2.2.2.2.1, O.2.2.2.2.2), im, IL) X) (A 14) = some (obj 1 [.ref (A 15), .ref (A 20), .ref (A 23)]) := hGet hA _ _ 14 (by decide)
      have g27 : (HP G h A N (K, (F, P, T, V), ((O.1.1, O.1.2), O.2.1, O.2.2.1, ch, O.2.2.2.2.1, O.2.2.2.2.2), im, IL) X) (A 27) = some (obj 2 [.int (zI (O.1.1)), .int (zI (O.1.2)), .ref (A 28), .ref (A 29), .ref (A 30), .ref (A 31), .ref (A 32)]) := hGet hA _ _ 27 (by decide)
      have g29 : (HP G h A N (K, (F, P, T, V), ((O.1.1, O.1.2), O.2.1, O.2.2.1, ch, O.2.2.2.2.1, O.2.2.2.2.2), im, IL) X) (A 29) = some (arI G 6 O.2.2.1) := hGet hA _ _ 29 (by decide)
      have g30 : (HP G h A N (K, (F, P, T, V), ((O.1.1, O.1.2), O.2.1, O.2.2.1, ch, O.2.2.2.2.1, O.2.2.2.2.2), im, IL) X) (A 30) = some (arI G 36 ch) := hGet hA _ _ 30 (by decide)
      refine EV.iload (i := 5) dX2_collect_6 rfl ?_
      refine EV.iload_n (i := 3) dX2_collect_8 rfl rfl ?_
      refine EV.bipush dX2_collect_9 (by decide) ?_
      refine EV.iadd dX2_collect_11 ?_
      refine EV.icmp_ge (t := 55) dX2_collect_12 (by decide) (by omega) (fun c12 => ?_) (fun c12 => ?_)
      · skip
        obtain rfl : k = 30 := by omega
        refine EV.aload_n (i := 0) dX2_collect_55 rfl rfl ?_
        refine EV.getf fl_X2_15 dX2_collect_56 g27 rfl ?_
        refine EV.iload_n (i := 2) dX2_collect_59 rfl rfl ?_
        refine EV.iload (i := 4) dX2_collect_60 rfl ?_
        refine EV.iast dX2_collect_62 g29 (w) (rfl) (by omega) ?_
        refine EV.hps (h' := HP G h A N (K, (F, P, T, V), ((O.1.1, O.1.2), O.2.1, (uI O.2.2.1 w (c : Int)), ch, O.2.2.2.2.1, O.2.2.2.2.2), im, IL) X) (wO2 hA _) ?_
        have g14 : (HP G h A N (K, (F, P, T, V), ((O.1.1, O.1.2), O.2.1, (uI O.2.2.1 w (c : Int)), ch, O.2.2.2.2.1, O.2.2.2.2.2), im, IL) X) (A 14) = some (obj 1 [.ref (A 15), .ref (A 20), .ref (A 23)]) := hGet hA _ _ 14 (by decide)
        have g27 : (HP G h A N (K, (F, P, T, V), ((O.1.1, O.1.2), O.2.1, (uI O.2.2.1 w (c : Int)), ch, O.2.2.2.2.1, O.2.2.2.2.2), im, IL) X) (A 27) = some (obj 2 [.int (zI (O.1.1)), .int (zI (O.1.2)), .ref (A 28), .ref (A 29), .ref (A 30), .ref (A 31), .ref (A 32)]) := hGet hA _ _ 27 (by decide)
        have g29 : (HP G h A N (K, (F, P, T, V), ((O.1.1, O.1.2), O.2.1, (uI O.2.2.1 w (c : Int)), ch, O.2.2.2.2.1, O.2.2.2.2.2), im, IL) X) (A 29) = some (arI G 6 (uI O.2.2.1 w (c : Int))) := hGet hA _ _ 29 (by decide)
        have g30 : (HP G h A N (K, (F, P, T, V), ((O.1.1, O.1.2), O.2.1, (uI O.2.2.1 w (c : Int)), ch, O.2.2.2.2.1, O.2.2.2.2.2), im, IL) X) (A 30) = some (arI G 36 ch) := hGet hA _ _ 30 (by decide)
        refine EV.vret rfl dX2_collect_63 ?_
        refine ⟨rfl, c, ch, ⟨hc6, fun i hi => ?_, fun j hj hm h6 => ?_⟩, hof, rfl⟩
        · obtain ⟨j, j1, j2⟩ := hcs i hi; exact ⟨j, j1, j2⟩
        · rw [hcn]; exact cnt_lt2 hm hj
      · skip
        refine EV.iload (i := 4) dX2_collect_15 rfl ?_
        refine EV.bipush dX2_collect_17 (by decide) ?_
        refine EV.icmp_ge (t := 55) dX2_collect_19 (by decide) (by omega) (fun c19 => ?_) (fun c19 => ?_)
        · skip
          refine EV.aload_n (i := 0) dX2_collect_55 rfl rfl ?_
          refine EV.getf fl_X2_15 dX2_collect_56 g27 rfl ?_
          refine EV.iload_n (i := 2) dX2_collect_59 rfl rfl ?_
          refine EV.iload (i := 4) dX2_collect_60 rfl ?_
          refine EV.iast dX2_collect_62 g29 (w) (rfl) (by omega) ?_
          refine EV.hps (h' := HP G h A N (K, (F, P, T, V), ((O.1.1, O.1.2), O.2.1, (uI O.2.2.1 w (c : Int)), ch, O.2.2.2.2.1, O.2.2.2.2.2), im, IL) X) (wO2 hA _) ?_
          have g14 : (HP G h A N (K, (F, P, T, V), ((O.1.1, O.1.2), O.2.1, (uI O.2.2.1 w (c : Int)), ch, O.2.2.2.2.1, O.2.2.2.2.2), im, IL) X) (A 14) = some (obj 1 [.ref (A 15), .ref (A 20), .ref (A 23)]) := hGet hA _ _ 14 (by decide)
          have g27 : (HP G h A N (K, (F, P, T, V), ((O.1.1, O.1.2), O.2.1, (uI O.2.2.1 w (c : Int)), ch, O.2.2.2.2.1, O.2.2.2.2.2), im, IL) X) (A 27) = some (obj 2 [.int (zI (O.1.1)), .int (zI (O.1.2)), .ref (A 28), .ref (A 29), .ref (A 30), .ref (A 31), .ref (A 32)]) := hGet hA _ _ 27 (by decide)
          have g29 : (HP G h A N (K, (F, P, T, V), ((O.1.1, O.1.2), O.2.1, (uI O.2.2.1 w (c : Int)), ch, O.2.2.2.2.1, O.2.2.2.2.2), im, IL) X) (A 29) = some (arI G 6 (uI O.2.2.1 w (c : Int))) := hGet hA _ _ 29 (by decide)
          have g30 : (HP G h A N (K, (F, P, T, V), ((O.1.1, O.1.2), O.2.1, (uI O.2.2.1 w (c : Int)), ch, O.2.2.2.2.1, O.2.2.2.2.2), im, IL) X) (A 30) = some (arI G 36 ch) := hGet hA _ _ 30 (by decide)
          refine EV.vret rfl dX2_collect_63 ?_
          refine ⟨rfl, c, ch, ⟨hc6, fun i hi => ?_, fun j hj hm h6 => by omega⟩, hof, rfl⟩
          obtain ⟨j, j1, j2⟩ := hcs i hi; exact ⟨j, by omega, j2⟩
        · skip
          refine EV.aload_n (i := 1) dX2_collect_22 rfl rfl ?_
          refine EV.iload_n (i := 2) dX2_collect_23 rfl rfl ?_
          refine EV.iload (i := 5) dX2_collect_24 rfl ?_
          refine EV.callVr (M' := mX1_isDoable) (as := [.int (zI ((w : Int))), .int (zI ((fr + (k : Int))))]) (rest := []) ml_X2_67 im_X1_isDoable se_X1_isDoable rfl co_X1_isDoable dX2_collect_26 g14 (c_X1_isDoable (d + 0) hA hW hP hT w (fr + (k : Int)) (by omega) (by omega)) rfl rfl (Nat.le_of_ble_eq_true rfl) ?_
          refine EV.ifeqB (t := 49) dX2_collect_29 (by decide) (fun c29 => ?_) (fun c29 => ?_)
          · skip
            refine EV.iinc (i := 5) (lv' := [some (.ref (A 27)), some (.ref (A 14)), some (.int (zI ((w : Int)))), some (.int (zI (fr))), some (.int (zI ((c : Int)))), some (.int (zI ((fr + (k : Int)) + 1)))]) dX2_collect_49 rfl (by decide) rfl ?_
            refine EV.goto (t := 6) dX2_collect_52 (by decide) ?_
            exact ih6 (k + 1) c _ _ _ _ (by omega) (by omega) (by rw [cnt_s, if_neg (by rw [show moC F P fr w (k : Int) = false from c29]; decide)]; exact hcn) (fun i hi => by obtain ⟨j, j1, j2⟩ := hcs i hi; exact ⟨j, by omega, j2⟩) (hof) (by omega) (by omega) (by omega) (rfl)
          · skip
            refine EV.aload_n (i := 0) dX2_collect_32 rfl rfl ?_
            refine EV.getf fl_X2_18 dX2_collect_33 g27 rfl ?_
            refine EV.iload_n (i := 2) dX2_collect_36 rfl rfl ?_
            refine EV.bipush dX2_collect_37 (by decide) ?_
            refine EV.imul dX2_collect_39 ?_
            refine EV.iload (i := 4) dX2_collect_40 rfl ?_
            refine EV.iadd dX2_collect_42 ?_
            refine EV.iload (i := 5) dX2_collect_43 rfl ?_
            refine EV.iast dX2_collect_45 g30 (6 * w + c) (by omega) (by omega) ?_
            refine EV.hps (h' := HP G h A N (K, (F, P, T, V), ((O.1.1, O.1.2), O.2.1, O.2.2.1, (uI ch (6 * w + c) (fr + (k : Int))), O.2.2.2.2.1, O.2.2.2.2.2), im, IL) X) (wO3 hA _) ?_
            have g14 : (HP G h A N (K, (F, P, T, V), ((O.1.1, O.1.2), O.2.1, O.2.2.1, (uI ch (6 * w + c) (fr + (k : Int))), O.2.2.2.2.1, O.2.2.2.2.2), im, IL) X) (A 14) = some (obj 1 [.ref (A 15), .ref (A 20), .ref (A 23)]) := hGet hA _ _ 14 (by decide)
            have g27 : (HP G h A N (K, (F, P, T, V), ((O.1.1, O.1.2), O.2.1, O.2.2.1, (uI ch (6 * w + c) (fr + (k : Int))), O.2.2.2.2.1, O.2.2.2.2.2), im, IL) X) (A 27) = some (obj 2 [.int (zI (O.1.1)), .int (zI (O.1.2)), .ref (A 28), .ref (A 29), .ref (A 30), .ref (A 31), .ref (A 32)]) := hGet hA _ _ 27 (by decide)
            have g29 : (HP G h A N (K, (F, P, T, V), ((O.1.1, O.1.2), O.2.1, O.2.2.1, (uI ch (6 * w + c) (fr + (k : Int))), O.2.2.2.2.1, O.2.2.2.2.2), im, IL) X) (A 29) = some (arI G 6 O.2.2.1) := hGet hA _ _ 29 (by decide)
            have g30 : (HP G h A N (K, (F, P, T, V), ((O.1.1, O.1.2), O.2.1, O.2.2.1, (uI ch (6 * w + c) (fr + (k : Int))), O.2.2.2.2.1, O.2.2.2.2.2), im, IL) X) (A 30) = some (arI G 36 (uI ch (6 * w + c) (fr + (k : Int)))) := hGet hA _ _ 30 (by decide)
            refine EV.iinc (i := 4) (lv' := [some (.ref (A 27)), some (.ref (A 14)), some (.int (zI ((w : Int)))), some (.int (zI (fr))), some (.int (zI ((c : Int) + 1))), some (.int (zI ((fr + (k : Int)))))]) dX2_collect_46 rfl (by decide) rfl ?_
            refine EV.iinc (i := 5) (lv' := [some (.ref (A 27)), some (.ref (A 14)), some (.int (zI ((w : Int)))), some (.int (zI (fr))), some (.int (zI (((c : Int) + 1)))), some (.int (zI ((fr + (k : Int)) + 1)))]) dX2_collect_49 rfl (by decide) rfl ?_
            refine EV.goto (t := 6) dX2_collect_52 (by decide) ?_
            exact ih6 (k + 1) (c + 1) _ _ _ _ (by omega) (by omega) (by rw [cnt_s, if_pos (show moC F P fr w (k : Int) = true from c29)]; omega) (fun i hi => by by_cases e : i = c; exact ⟨k, by omega, by rw [e, uI_s], c29, by rw [e]; exact hcn.symm⟩; obtain ⟨j, j1, j2⟩ := hcs i (by omega); exact ⟨j, by omega, by rw [uI_n _ _ (by omega)]; exact j2⟩) (fun x hx => by rw [uI_n _ _ (by omega)]; exact hof x hx) (by omega) (by omega) (by omega) (rfl)
  exact L6 _ 0 0 O.2.2.2.1 _ _ _ (by omega) (by omega) (rfl) (fun i hi => absurd hi (Nat.not_lt_zero _)) (fun _ _ => rfl) (Nat.lt_succ_self _) (rfl) (by omega) (rfl)
set_option maxHeartbeats 4000000 in
set_option maxRecDepth 20000 in
theorem c_search1 (d : Nat) (hA : inA A N) (hK : WFK K) (hW : WF F) (hP : WFP P) (hT : WFT T) (fr : Int) (hfr : 0 ≤ fr ∧ fr ≤ 9970) {pe co ch : Nat → Int} (hpe : ∀ u, u < P.1 → pe u = (P.2.2 u : Int)) (hch : ∀ u, u < P.1 → ∃ c : Nat, co u = (c : Int) ∧ CHP (moC F P fr) fr u c ch) (w : Nat) (hw : w ≤ P.1) (m : Int) (hm : -1 ≤ m ∧ m ≤ 6) (tr be Lt : Nat → Int) (hE : EE fr tr Lt (w)) (hv : vld (moC F P fr) (moD P) Lt (w)) (hr : rst (moC F P fr) Lt (w)) (done : Nat) (hd : done + skp Lt (w) = w) (ih : w < P.1 → ∀ (m : Int) (hm : -1 ≤ m ∧ m ≤ 6) (tr be Lt : Nat → Int) (hE : EE fr tr Lt (w + 1)) (hv : vld (moC F P fr) (moD P) Lt (w + 1)) (hr : rst (moC F P fr) Lt (w + 1)) (done : Nat) (hd : done + skp Lt (w + 1) = w + 1), CT G l mX2_search (d + 2) 0 0 [.ref (A 27), .int (zI ((w : Int) + 1)), .int (zI (done : Int))] (HP G h A N (K, (F, P, T, V), (((P.1 : Int), m), pe, co, ch, tr, be), im, IL) X) (fun o h' => o = none ∧ ∃ (m' : Int) (t' b' : Nat → Int), (∀ v, v < w + 1 → t' v = tr v) ∧ SR P.1 fr (SS (moC F P fr) (moD P) P.1 (w + 1) (Lt)) (m) (be) m' b' ∧ h' = HP G h A N (K, (F, P, T, V), (((P.1 : Int), m'), pe, co, ch, t', b'), im, IL) X)) : CT G l mX2_search (d + 3) 0 0 [.ref (A 27), .int (zI ((w : Int))), .int (zI ((done : Int)))] (HP G h A N (K, (F, P, T, V), (((P.1 : Int), m), pe, co, ch, tr, be), im, IL) X) (fun o h' => o = none ∧ ∃ (m' : Int) (t' b' : Nat → Int), (∀ v, v < w → t' v = tr v) ∧ SR P.1 fr (SS (moC F P fr) (moD P) P.1 (w) (Lt)) (m) (be) m' b' ∧ h' = HP G h A N (K, (F, P, T, V), (((P.1 : Int), m'), pe, co, ch, t', b'), im, IL) X) := by
  refine CT.of (by decide) (Nat.le_of_ble_eq_true rfl) (List.forall_mem_cons.mpr ⟨rfl, List.forall_mem_cons.mpr ⟨rfl, List.forall_mem_cons.mpr ⟨rfl, fun _ h => absurd h List.not_mem_nil⟩⟩⟩) ?_
  refine EV.lvs (lv' := [some (.ref (A 27)), some (.int (zI ((w : Int)))), some (.int (zI ((done : Int)))), none, none]) rfl ?_
  have g27 : (HP G h A N (K, (F, P, T, V), (((P.1 : Int), m), pe, co, ch, tr, be), im, IL) X) (A 27) = some (obj 2 [.int (zI ((P.1 : Int))), .int (zI (m)), .ref (A 28), .ref (A 29), .ref (A 30), .ref (A 31), .ref (A 32)]) := hGet hA _ _ 27 (by decide)
  have g28 : (HP G h A N (K, (F, P, T, V), (((P.1 : Int), m), pe, co, ch, tr, be), im, IL) X) (A 28) = some (arI G 6 pe) := hGet hA _ _ 28 (by decide)
  have g29 : (HP G h A N (K, (F, P, T, V), (((P.1 : Int), m), pe, co, ch, tr, be), im, IL) X) (A 29) = some (arI G 6 co) := hGet hA _ _ 29 (by decide)
  have g30 : (HP G h A N (K, (F, P, T, V), (((P.1 : Int), m), pe, co, ch, tr, be), im, IL) X) (A 30) = some (arI G 36 ch) := hGet hA _ _ 30 (by decide)
  have g31 : (HP G h A N (K, (F, P, T, V), (((P.1 : Int), m), pe, co, ch, tr, be), im, IL) X) (A 31) = some (arI G 6 tr) := hGet hA _ _ 31 (by decide)
  have g32 : (HP G h A N (K, (F, P, T, V), (((P.1 : Int), m), pe, co, ch, tr, be), im, IL) X) (A 32) = some (arI G 6 be) := hGet hA _ _ 32 (by decide)
  have hP6 := hP.1
  have hsw := skp_le Lt w
  refine EV.aload_n (i := 0) dX2_search_0 rfl rfl ?_
  refine EV.isnull dX2_search_1 ?_
  refine EV.iload_n (i := 2) dX2_search_4 rfl rfl ?_
  refine EV.aload_n (i := 0) dX2_search_5 rfl rfl ?_
  refine EV.getf fl_X2_45 dX2_search_6 g27 rfl ?_
  refine EV.iadd dX2_search_9 ?_
  refine EV.iload_n (i := 1) dX2_search_10 rfl rfl ?_
  refine EV.isub dX2_search_11 ?_
  refine EV.aload_n (i := 0) dX2_search_12 rfl rfl ?_
  refine EV.getf fl_X2_48 dX2_search_13 g27 rfl ?_
  refine EV.icmp_gt (t := 20) dX2_search_16 (by decide) (by omega) (fun c16 => ?_) (fun c16 => ?_)
  · skip
    refine EV.iload_n (i := 1) dX2_search_20 rfl rfl ?_
    refine EV.aload_n (i := 0) dX2_search_21 rfl rfl ?_
    refine EV.getf fl_X2_45 dX2_search_22 g27 rfl ?_
    refine EV.callSNr (M' := mX6_isOneOf) (as := [.int (zI ((w : Int))), .int (zI ((P.1 : Int)))]) (rest := []) (host := RX6) (by decide) sm_X6_isOneOf co_X6_isOneOf dX2_search_25 (c_X6_isOneOf (d + 1) (w : Int) (P.1 : Int) (by omega) (by omega)) rfl rfl (Nat.le_of_ble_eq_true rfl) ?_
    refine EV.ifneB (t := 37) dX2_search_28 (by decide) (fun c28 => ?_) (fun c28 => ?_)
    · skip
      have c28r := of_rg c28
      have hwP : w < P.1 := by have := of_rg c28; omega
      obtain ⟨c, hc, hcp⟩ := hch w hwP
      have hcp6 := hcp.1
      refine EV.iconst dX2_search_37 ?_
      refine EV.istore_n (i := 3) (lv' := [some (.ref (A 27)), some (.int (zI ((w : Int)))), some (.int (zI ((done : Int)))), some (.int (zI (0))), none]) dX2_search_38 rfl (by decide) rfl ?_
      have L39 : ∀ (n39 : Nat) (i : Nat) (m1 : Int) (t1 b1 : Nat → Int) (x3 : Int) (hh : Hp), (i ≤ c) → (∀ v, v < w → t1 v = tr v) → (SR P.1 fr (SX (moC F P fr) (moD P) P.1 w fr ch Lt i) m be m1 b1) → c - i < n39 → x3 = (i : Int) → hh = HP G h A N (K, (F, P, T, V), (((P.1 : Int), m1), pe, co, ch, t1, b1), im, IL) X → EV G l mX2_search (d + 3) (fun o h' => o = none ∧ ∃ (m' : Int) (t' b' : Nat → Int), (∀ v, v < w → t' v = tr v) ∧ SR P.1 fr (SS (moC F P fr) (moD P) P.1 (w) (Lt)) (m) (be) m' b' ∧ h' = HP G h A N (K, (F, P, T, V), (((P.1 : Int), m'), pe, co, ch, t', b'), im, IL) X) 39 [some (.ref (A 27)), some (.int (zI ((w : Int)))), some (.int (zI ((done : Int)))), some (.int (zI (x3))), none] [] hh 0 0 := by
        intro n39
        induction n39 with
        | zero => intro _ _ _ _ _ _ _ _ _ hm; exact absurd hm (Nat.not_lt_zero _)
        | succ n39 ih39 =>
          intro i m1 t1 b1 x3 hh hi ht1 hs1 hm39 e3 eh
          subst e3 eh
          have hm1 := SR_rg hs1 hP6 hm
          have hE1 := EE_cg hE ht1
          have g27 : (HP G h A N (K, (F, P, T, V), (((P.1 : Int), m1), pe, co, ch, t1, b1), im, IL) X) (A 27) = some (obj 2 [.int (zI ((P.1 : Int))), .int (zI (m1)), .ref (A 28), .ref (A 29), .ref (A 30), .ref (A 31), .ref (A 32)]) := hGet hA _ _ 27 (by decide)
          have g28 : (HP G h A N (K, (F, P, T, V), (((P.1 : Int), m1), pe, co, ch, t1, b1), im, IL) X) (A 28) = some (arI G 6 pe) := hGet hA _ _ 28 (by decide)
          have g29 : (HP G h A N (K, (F, P, T, V), (((P.1 : Int), m1), pe, co, ch, t1, b1), im, IL) X) (A 29) = some (arI G 6 co) := hGet hA _ _ 29 (by decide)
          have g30 : (HP G h A N (K, (F, P, T, V), (((P.1 : Int), m1), pe, co, ch, t1, b1), im, IL) X) (A 30) = some (arI G 36 ch) := hGet hA _ _ 30 (by decide)
          have g31 : (HP G h A N (K, (F, P, T, V), (((P.1 : Int), m1), pe, co, ch, t1, b1), im, IL) X) (A 31) = some (arI G 6 t1) := hGet hA _ _ 31 (by decide)
          have g32 : (HP G h A N (K, (F, P, T, V), (((P.1 : Int), m1), pe, co, ch, t1, b1), im, IL) X) (A 32) = some (arI G 6 b1) := hGet hA _ _ 32 (by decide)
          refine EV.iload_n (i := 3) dX2_search_39 rfl rfl ?_
          refine EV.aload_n (i := 0) dX2_search_40 rfl rfl ?_
          refine EV.getf fl_X2_15 dX2_search_41 g27 rfl ?_
          refine EV.iload_n (i := 1) dX2_search_44 rfl rfl ?_
          refine EV.iald dX2_search_45 g29 (w) (rfl) (by omega) ?_
          refine EV.top (y := zI ((c : Int))) (by rw [hc]) ?_
          refine EV.icmp_ge (t := 96) dX2_search_46 (by decide) (by omega) (fun c46 => ?_) (fun c46 => ?_)
          · skip
            obtain rfl : i = c := by omega
            have hnw := vld_u (x := 30) hv ⟨by omega, by omega⟩ (fun z => absurd z (by omega))
            have hnr := rst_u (x := 30) hr (fun z => absurd z (by omega))
            have hnd := skp_u (x := 30) hd
            rw [if_pos rfl] at hnd
            refine EV.aload_n (i := 0) dX2_search_96 rfl rfl ?_
            refine EV.getf fl_X2_21 dX2_search_97 g27 rfl ?_
            refine EV.iload_n (i := 1) dX2_search_100 rfl rfl ?_
            refine EV.bipush dX2_search_101 (by decide) ?_
            refine EV.iast dX2_search_103 g31 (w) (rfl) (by omega) ?_
            refine EV.hps (h' := HP G h A N (K, (F, P, T, V), (((P.1 : Int), m1), pe, co, ch, (uI t1 w (-6)), b1), im, IL) X) (wO4 hA _) ?_
            have g27 : (HP G h A N (K, (F, P, T, V), (((P.1 : Int), m1), pe, co, ch, (uI t1 w (-6)), b1), im, IL) X) (A 27) = some (obj 2 [.int (zI ((P.1 : Int))), .int (zI (m1)), .ref (A 28), .ref (A 29), .ref (A 30), .ref (A 31), .ref (A 32)]) := hGet hA _ _ 27 (by decide)
            have g28 : (HP G h A N (K, (F, P, T, V), (((P.1 : Int), m1), pe, co, ch, (uI t1 w (-6)), b1), im, IL) X) (A 28) = some (arI G 6 pe) := hGet hA _ _ 28 (by decide)
            have g29 : (HP G h A N (K, (F, P, T, V), (((P.1 : Int), m1), pe, co, ch, (uI t1 w (-6)), b1), im, IL) X) (A 29) = some (arI G 6 co) := hGet hA _ _ 29 (by decide)
            have g30 : (HP G h A N (K, (F, P, T, V), (((P.1 : Int), m1), pe, co, ch, (uI t1 w (-6)), b1), im, IL) X) (A 30) = some (arI G 36 ch) := hGet hA _ _ 30 (by decide)
            have g31 : (HP G h A N (K, (F, P, T, V), (((P.1 : Int), m1), pe, co, ch, (uI t1 w (-6)), b1), im, IL) X) (A 31) = some (arI G 6 (uI t1 w (-6))) := hGet hA _ _ 31 (by decide)
            have g32 : (HP G h A N (K, (F, P, T, V), (((P.1 : Int), m1), pe, co, ch, (uI t1 w (-6)), b1), im, IL) X) (A 32) = some (arI G 6 b1) := hGet hA _ _ 32 (by decide)
            refine EV.aload_n (i := 0) dX2_search_104 rfl rfl ?_
            refine EV.iload_n (i := 1) dX2_search_105 rfl rfl ?_
            refine EV.iconst dX2_search_106 ?_
            refine EV.iadd dX2_search_107 ?_
            refine EV.iload_n (i := 2) dX2_search_108 rfl rfl ?_
            refine EV.callS (M' := mX2_search) (as := [.ref (A 27), .int (zI (((w : Int) + 1))), .int (zI ((done : Int)))]) (rest := []) ml_X2_59 sm_X2_search co_X2_search dX2_search_109 (ih hwP m1 hm1 (uI t1 w (-6)) b1 (uI Lt w 30) (EE_n hE1) hnw hnr done (by omega)) rfl rfl (Nat.le_of_ble_eq_true rfl) (Nat.le_of_ble_eq_true rfl) (Nat.le_of_ble_eq_true rfl) (fun v109 h109 q109 => ?_)
            obtain ⟨rfl, m2, t2, b2, ht2, hs2, rfl⟩ := q109
            refine EV.sts (st' := []) rfl ?_
            have g27 : (HP G h A N (K, (F, P, T, V), (((P.1 : Int), m2), pe, co, ch, t2, b2), im, IL) X) (A 27) = some (obj 2 [.int (zI ((P.1 : Int))), .int (zI (m2)), .ref (A 28), .ref (A 29), .ref (A 30), .ref (A 31), .ref (A 32)]) := hGet hA _ _ 27 (by decide)
            have g28 : (HP G h A N (K, (F, P, T, V), (((P.1 : Int), m2), pe, co, ch, t2, b2), im, IL) X) (A 28) = some (arI G 6 pe) := hGet hA _ _ 28 (by decide)
            have g29 : (HP G h A N (K, (F, P, T, V), (((P.1 : Int), m2), pe, co, ch, t2, b2), im, IL) X) (A 29) = some (arI G 6 co) := hGet hA _ _ 29 (by decide)
            have g30 : (HP G h A N (K, (F, P, T, V), (((P.1 : Int), m2), pe, co, ch, t2, b2), im, IL) X) (A 30) = some (arI G 36 ch) := hGet hA _ _ 30 (by decide)
            have g31 : (HP G h A N (K, (F, P, T, V), (((P.1 : Int), m2), pe, co, ch, t2, b2), im, IL) X) (A 31) = some (arI G 6 t2) := hGet hA _ _ 31 (by decide)
            have g32 : (HP G h A N (K, (F, P, T, V), (((P.1 : Int), m2), pe, co, ch, t2, b2), im, IL) X) (A 32) = some (arI G 6 b2) := hGet hA _ _ 32 (by decide)
            refine EV.vret rfl dX2_search_112 ?_
            exact ⟨rfl, m2, t2, b2, fun v hv => by rw [ht2 v (by omega), uI_n _ _ (by omega)]; exact ht1 v hv, SX_end hwP hcp hs1 hs2, rfl⟩
          · skip
            refine EV.aload_n (i := 0) dX2_search_49 rfl rfl ?_
            refine EV.getf fl_X2_18 dX2_search_50 g27 rfl ?_
            refine EV.iload_n (i := 1) dX2_search_53 rfl rfl ?_
            refine EV.bipush dX2_search_54 (by decide) ?_
            refine EV.imul dX2_search_56 ?_
            refine EV.iload_n (i := 3) dX2_search_57 rfl rfl ?_
            refine EV.iadd dX2_search_58 ?_
            refine EV.iald dX2_search_59 g30 (6 * w + i) (by omega) (by omega) ?_
            obtain ⟨j, hj30, hje, hjm, hjn⟩ := hcp.2.1 i (by omega)
            refine EV.top (y := zI ((fr + (j : Int)))) (by rw [hje]) ?_
            refine EV.istore (i := 4) (lv' := [some (.ref (A 27)), some (.int (zI ((w : Int)))), some (.int (zI ((done : Int)))), some (.int (zI ((i : Int)))), some (.int (zI ((fr + (j : Int)))))]) dX2_search_60 (by decide) rfl ?_
            refine EV.aload_n (i := 0) dX2_search_62 rfl rfl ?_
            refine EV.iload_n (i := 1) dX2_search_63 rfl rfl ?_
            refine EV.iload (i := 4) dX2_search_64 rfl ?_
            refine EV.callVr (M' := mX2_isFree) (as := [.int (zI ((w : Int))), .int (zI ((fr + (j : Int))))]) (rest := []) ml_X2_74 im_X2_isFree se_X2_isFree rfl co_X2_isFree dX2_search_66 g27 (c_X2_isFree (d + 1) hA hP w (fr + (j : Int)) hwP (by omega) hpe (fun u hu => EE_i hE1 hfr hu)) rfl rfl (Nat.le_of_ble_eq_true rfl) ?_
            refine EV.ifeqB (t := 90) dX2_search_69 (by decide) (fun c69 => ?_) (fun c69 => ?_)
            · skip
              rw [free_eq hE1 hfr.1 hj30] at c69
              refine EV.iinc (i := 3) (lv' := [some (.ref (A 27)), some (.int (zI ((w : Int)))), some (.int (zI ((done : Int)))), some (.int (zI ((i : Int) + 1))), some (.int (zI ((fr + (j : Int)))))]) dX2_search_90 rfl (by decide) rfl ?_
              refine EV.goto (t := 39) dX2_search_93 (by decide) ?_
              refine EV.drop 4 (lv' := [some (.ref (A 27)), some (.int (zI ((w : Int)))), some (.int (zI ((done : Int)))), some (.int (zI (((i : Int) + 1)))), none]) rfl ?_
              exact ih39 (i + 1) m1 t1 b1 _ _ (by omega) (ht1) (SX_no hwP hs1 hj30 hje c69) (by omega) (by omega) (rfl)
            · skip
              rw [free_eq hE1 hfr.1 hj30] at c69
              have hfj : fitB (moC F P fr) (moD P) Lt w (j : Int) = true := by unfold fitB; rw [hjm]; exact c69
              have hnw := vld_u (x := (j : Int)) hv ⟨by omega, by omega⟩ (fun _ => hfj)
              have hnr := rst_u (x := (j : Int)) hr (fun _ => by rw [Int.toNat_natCast]; omega)
              have hnd := skp_u (x := (j : Int)) hd
              rw [if_neg (by omega)] at hnd
              refine EV.aload_n (i := 0) dX2_search_72 rfl rfl ?_
              refine EV.getf fl_X2_21 dX2_search_73 g27 rfl ?_
              refine EV.iload_n (i := 1) dX2_search_76 rfl rfl ?_
              refine EV.iload (i := 4) dX2_search_77 rfl ?_
              refine EV.iast dX2_search_79 g31 (w) (rfl) (by omega) ?_
              refine EV.hps (h' := HP G h A N (K, (F, P, T, V), (((P.1 : Int), m1), pe, co, ch, (uI t1 w (fr + (j : Int))), b1), im, IL) X) (wO4 hA _) ?_
              have g27 : (HP G h A N (K, (F, P, T, V), (((P.1 : Int), m1), pe, co, ch, (uI t1 w (fr + (j : Int))), b1), im, IL) X) (A 27) = some (obj 2 [.int (zI ((P.1 : Int))), .int (zI (m1)), .ref (A 28), .ref (A 29), .ref (A 30), .ref (A 31), .ref (A 32)]) := hGet hA _ _ 27 (by decide)
              have g28 : (HP G h A N (K, (F, P, T, V), (((P.1 : Int), m1), pe, co, ch, (uI t1 w (fr + (j : Int))), b1), im, IL) X) (A 28) = some (arI G 6 pe) := hGet hA _ _ 28 (by decide)
              have g29 : (HP G h A N (K, (F, P, T, V), (((P.1 : Int), m1), pe, co, ch, (uI t1 w (fr + (j : Int))), b1), im, IL) X) (A 29) = some (arI G 6 co) := hGet hA _ _ 29 (by decide)
              have g30 : (HP G h A N (K, (F, P, T, V), (((P.1 : Int), m1), pe, co, ch, (uI t1 w (fr + (j : Int))), b1), im, IL) X) (A 30) = some (arI G 36 ch) := hGet hA _ _ 30 (by decide)
              have g31 : (HP G h A N (K, (F, P, T, V), (((P.1 : Int), m1), pe, co, ch, (uI t1 w (fr + (j : Int))), b1), im, IL) X) (A 31) = some (arI G 6 (uI t1 w (fr + (j : Int)))) := hGet hA _ _ 31 (by decide)
              have g32 : (HP G h A N (K, (F, P, T, V), (((P.1 : Int), m1), pe, co, ch, (uI t1 w (fr + (j : Int))), b1), im, IL) X) (A 32) = some (arI G 6 b1) := hGet hA _ _ 32 (by decide)
              refine EV.aload_n (i := 0) dX2_search_80 rfl rfl ?_
              refine EV.iload_n (i := 1) dX2_search_81 rfl rfl ?_
              refine EV.iconst dX2_search_82 ?_
              refine EV.iadd dX2_search_83 ?_
              refine EV.iload_n (i := 2) dX2_search_84 rfl rfl ?_
              refine EV.iconst dX2_search_85 ?_
              refine EV.iadd dX2_search_86 ?_
              refine EV.callS (M' := mX2_search) (as := [.ref (A 27), .int (zI (((w : Int) + 1))), .int (zI (((done : Int) + 1)))]) (rest := []) ml_X2_59 sm_X2_search co_X2_search dX2_search_87 (ih hwP m1 hm1 (uI t1 w (fr + (j : Int))) b1 (uI Lt w (j : Int)) (EE_y hE1 hj30) hnw hnr (done + 1) (by omega)) rfl rfl (Nat.le_of_ble_eq_true rfl) (Nat.le_of_ble_eq_true rfl) (Nat.le_of_ble_eq_true rfl) (fun v87 h87 q87 => ?_)
              obtain ⟨rfl, m2, t2, b2, ht2, hs2, rfl⟩ := q87
              refine EV.sts (st' := []) rfl ?_
              have g27 : (HP G h A N (K, (F, P, T, V), (((P.1 : Int), m2), pe, co, ch, t2, b2), im, IL) X) (A 27) = some (obj 2 [.int (zI ((P.1 : Int))), .int (zI (m2)), .ref (A 28), .ref (A 29), .ref (A 30), .ref (A 31), .ref (A 32)]) := hGet hA _ _ 27 (by decide)
              have g28 : (HP G h A N (K, (F, P, T, V), (((P.1 : Int), m2), pe, co, ch, t2, b2), im, IL) X) (A 28) = some (arI G 6 pe) := hGet hA _ _ 28 (by decide)
              have g29 : (HP G h A N (K, (F, P, T, V), (((P.1 : Int), m2), pe, co, ch, t2, b2), im, IL) X) (A 29) = some (arI G 6 co) := hGet hA _ _ 29 (by decide)
              have g30 : (HP G h A N (K, (F, P, T, V), (((P.1 : Int), m2), pe, co, ch, t2, b2), im, IL) X) (A 30) = some (arI G 36 ch) := hGet hA _ _ 30 (by decide)
              have g31 : (HP G h A N (K, (F, P, T, V), (((P.1 : Int), m2), pe, co, ch, t2, b2), im, IL) X) (A 31) = some (arI G 6 t2) := hGet hA _ _ 31 (by decide)
              have g32 : (HP G h A N (K, (F, P, T, V), (((P.1 : Int), m2), pe, co, ch, t2, b2), im, IL) X) (A 32) = some (arI G 6 b2) := hGet hA _ _ 32 (by decide)
              refine EV.iinc (i := 3) (lv' := [some (.ref (A 27)), some (.int (zI ((w : Int)))), some (.int (zI ((done : Int)))), some (.int (zI ((i : Int) + 1))), some (.int (zI ((fr + (j : Int)))))]) dX2_search_90 rfl (by decide) rfl ?_
              refine EV.goto (t := 39) dX2_search_93 (by decide) ?_
              refine EV.drop 4 (lv' := [some (.ref (A 27)), some (.int (zI ((w : Int)))), some (.int (zI ((done : Int)))), some (.int (zI (((i : Int) + 1)))), none]) rfl ?_
              exact ih39 (i + 1) m2 t2 b2 _ _ (by omega) (fun v hv => by rw [ht2 v (by omega), uI_n _ _ (by omega)]; exact ht1 v hv) (SX_yes hcp (by omega) hs1 hje hjn hs2) (by omega) (by omega) (rfl)
      exact L39 _ 0 m tr be _ _ (by omega) (fun _ _ => rfl) (SX_0) (Nat.lt_succ_self _) (rfl) (rfl)
    · skip
      have c28r := of_nrg c28
      obtain rfl : w = P.1 := by have := of_nrg c28; omega
      refine EV.aload_n (i := 0) dX2_search_31 rfl rfl ?_
      refine EV.iload_n (i := 2) dX2_search_32 rfl rfl ?_
      refine EV.callV (M' := mX2_keep) (as := [.int (zI ((done : Int)))]) (rest := []) ml_X2_70 im_X2_keep se_X2_keep rfl co_X2_keep dX2_search_33 g27 (c_X2_keep (d + 0) hA (done : Int)) rfl rfl (Nat.le_of_ble_eq_true rfl) (Nat.le_of_ble_eq_true rfl) (Nat.le_of_ble_eq_true rfl) (fun v33 h33 q33 => ?_)
      obtain ⟨rfl, rfl⟩ := q33
      refine EV.sts (st' := []) rfl ?_
      refine EV.vret rfl dX2_search_36 ?_
      exact ⟨rfl, _, tr, tr, fun _ _ => rfl, SR_leaf hE hv hr hd (by omega), rfl⟩
  · skip
    refine EV.vret rfl dX2_search_19 ?_
    exact ⟨rfl, m, tr, be, fun _ _ => rfl, SR_prune hw hd (by omega), rfl⟩
theorem c_search (hA : inA A N) (hK : WFK K) (hW : WF F) (hP : WFP P) (hT : WFT T) (fr : Int) (hfr : 0 ≤ fr ∧ fr ≤ 9970) {pe co ch : Nat → Int} (hpe : ∀ u, u < P.1 → pe u = (P.2.2 u : Int)) (hch : ∀ u, u < P.1 → ∃ c : Nat, co u = (c : Int) ∧ CHP (moC F P fr) fr u c ch) : ∀ (r d w : Nat), w + r = P.1 → ∀ (m : Int) (hm : -1 ≤ m ∧ m ≤ 6) (tr be Lt : Nat → Int) (hE : EE fr tr Lt (w)) (hv : vld (moC F P fr) (moD P) Lt (w)) (hr : rst (moC F P fr) Lt (w)) (done : Nat) (hd : done + skp Lt (w) = w), CT G l mX2_search (d + r + 3) 0 0 [.ref (A 27), .int (zI (w : Int)), .int (zI (done : Int))] (HP G h A N (K, (F, P, T, V), (((P.1 : Int), m), pe, co, ch, tr, be), im, IL) X) (fun o h' => o = none ∧ ∃ (m' : Int) (t' b' : Nat → Int), (∀ v, v < w → t' v = tr v) ∧ SR P.1 fr (SS (moC F P fr) (moD P) P.1 (w) (Lt)) (m) (be) m' b' ∧ h' = HP G h A N (K, (F, P, T, V), (((P.1 : Int), m'), pe, co, ch, t', b'), im, IL) X)
  | 0, d, w, e => fun m hm tr be Lt hE hv hr done hd => c_search1 d hA hK hW hP hT fr hfr hpe hch w (by omega) m hm tr be Lt hE hv hr done hd (fun z => absurd z (by omega))
  | r + 1, d, w, e => fun m hm tr be Lt hE hv hr done hd => c_search1 (d + r + 1) hA hK hW hP hT fr hfr hpe hch w (by omega) m hm tr be Lt hE hv hr done hd (fun z => c_search hA hK hW hP hT fr hfr hpe hch r d (w + 1) (by omega))
theorem c_search0 (d : Nat) (hA : inA A N) (hK : WFK K) (hW : WF F) (hP : WFP P) (hT : WFT T) (fr : Int) (hfr : 0 ≤ fr ∧ fr ≤ 9970) {pe co ch : Nat → Int} (hpe : ∀ u, u < P.1 → pe u = (P.2.2 u : Int)) (hch : ∀ u, u < P.1 → ∃ c : Nat, co u = (c : Int) ∧ CHP (moC F P fr) fr u c ch) (tr be : Nat → Int) : CT G l mX2_search (d + 9) 0 0 [.ref (A 27), .int (zI 0), .int (zI 0)] (HP G h A N (K, (F, P, T, V), (((P.1 : Int), (-1)), pe, co, ch, tr, be), im, IL) X) (fun o h' => o = none ∧ ∃ (m' : Int) (t' b' : Nat → Int), (∀ v, v < 0 → t' v = tr v) ∧ SR P.1 fr (SS (moC F P fr) (moD P) P.1 (0) ((fun _ => 30))) ((-1)) (be) m' b' ∧ h' = HP G h A N (K, (F, P, T, V), (((P.1 : Int), m'), pe, co, ch, t', b'), im, IL) X) := by
  have hP6 := hP.1
  have h := c_search (G := G) (l := l) (h := h) (V := V) (im := im) (IL := IL) (X := X) hA hK hW hP hT fr hfr hpe hch P.1 (d + (6 - P.1)) 0 (by omega) (-1) (by omega) tr be (fun _ => 30) (fun v hv => absurd hv (Nat.not_lt_zero _)) (fun v hv => absurd hv (Nat.not_lt_zero _)) (fun v hv => absurd hv (Nat.not_lt_zero _)) 0 rfl
  rw [show d + (6 - P.1) + P.1 + 3 = d + 9 by omega] at h
  exact h
set_option maxHeartbeats 4000000 in
set_option maxRecDepth 20000 in
theorem c_X2_settle (d : Nat) (hA : inA A N) (hK : WFK K) (hW : WF F) (hP : WFP P) (hT : WFT T) (fr : Int) (hfr : 0 ≤ fr ∧ fr ≤ 9970) : CT G l mX2_settle (d + 10) 0 0 [.ref (A 27), .ref (A 14), .int (zI (fr))] (HP G h A N (K, (F, P, T, V), O, im, IL) X) (fun o h' => o = none ∧ ∃ (O' : MO) (Lb : Nat → Int), O'.1.1 = (P.1 : Int) ∧ EE fr O'.2.2.2.2.2 Lb P.1 ∧ ropt (moC F P fr) (moD P) P.1 Lb ∧ (P.1 : Int) - (skp Lb P.1 : Int) = O'.1.2 ∧ h' = HP G h A N (K, (F, P, T, V), O', im, IL) X) := by
  refine CT.of (by decide) (Nat.le_of_ble_eq_true rfl) (List.forall_mem_cons.mpr ⟨rfl, List.forall_mem_cons.mpr ⟨rfl, List.forall_mem_cons.mpr ⟨rfl, fun _ h => absurd h List.not_mem_nil⟩⟩⟩) ?_
  refine EV.lvs (lv' := [some (.ref (A 27)), some (.ref (A 14)), some (.int (zI (fr))), none]) rfl ?_
  have g14 : (HP G h A N (K, (F, P, T, V), O, im, IL) X) (A 14) = some (obj 1 [.ref (A 15), .ref (A 20), .ref (A 23)]) := hGet hA _ _ 14 (by decide)
  have g20 : (HP G h A N (K, (F, P, T, V), O, im, IL) X) (A 20) = some (obj 4 [.int (zI ((P.1 : Int))), .ref (A 21), .ref (A 22)]) := hGet hA _ _ 20 (by decide)
  have g27 : (HP G h A N (K, (F, P, T, V), O, im, IL) X) (A 27) = some (obj 2 [.int (zI (O.1.1)), .int (zI (O.1.2)), .ref (A 28), .ref (A 29), .ref (A 30), .ref (A 31), .ref (A 32)]) := hGet hA _ _ 27 (by decide)
  have g28 : (HP G h A N (K, (F, P, T, V), O, im, IL) X) (A 28) = some (arI G 6 O.2.1) := hGet hA _ _ 28 (by decide)
  have g29 : (HP G h A N (K, (F, P, T, V), O, im, IL) X) (A 29) = some (arI G 6 O.2.2.1) := hGet hA _ _ 29 (by decide)
  have g30 : (HP G h A N (K, (F, P, T, V), O, im, IL) X) (A 30) = some (arI G 36 O.2.2.2.1) := hGet hA _ _ 30 (by decide)
  have g31 : (HP G h A N (K, (F, P, T, V), O, im, IL) X) (A 31) = some (arI G 6 O.2.2.2.2.1) := hGet hA _ _ 31 (by decide)
  have g32 : (HP G h A N (K, (F, P, T, V), O, im, IL) X) (A 32) = some (arI G 6 O.2.2.2.2.2) := hGet hA _ _ 32 (by decide)
  have hP6 := hP.1
  have hT6 := hT.1
  have hth := hW.1
  have hF : FolkAt G (HP G h A N (K, (F, P, T, V), O, im, IL) X) F (A 15) (A 16) (A 17) (A 18) (A 19) V := hFolk hA
  refine EV.aload_n (i := 1) dX2_settle_0 rfl rfl ?_
  refine EV.nonnull (t := 5) dX2_settle_1 (by decide) ?_
  refine EV.aload_n (i := 0) dX2_settle_5 rfl rfl ?_
  refine EV.aload_n (i := 1) dX2_settle_6 rfl rfl ?_
  refine EV.getf fl_X2_27 dX2_settle_7 g14 rfl ?_
  refine EV.getf fl_X2_33 dX2_settle_10 g20 rfl ?_
  refine EV.bipush dX2_settle_13 (by decide) ?_
  refine EV.callSr (M' := mJ9_min_7cf53) (as := [.int (zI ((P.1 : Int))), .int (zI (6))]) (rest := [.ref (A 27)]) ml_X2_39 sm_J9_min_7cf53 co_J9_min_7cf53 dX2_settle_15 (c_J9_min_7cf53 (d + 8) (P.1 : Int) 6 (by omega) (by omega)) rfl rfl (Nat.le_of_ble_eq_true rfl) ?_
  refine EV.top (y := zI ((P.1 : Int))) (by rw [if_neg (by omega)]) ?_
  refine EV.putf (fs' := [.int (zI ((P.1 : Int))), .int (zI (O.1.2)), .ref (A 28), .ref (A 29), .ref (A 30), .ref (A 31), .ref (A 32)]) fp_X2_45 dX2_settle_18 g27 (Nat.le_of_ble_eq_true rfl) rfl rfl rfl ?_
  refine EV.hps (h' := HP G h A N (K, (F, P, T, V), (((P.1 : Int), O.1.2), O.2.1, O.2.2.1, O.2.2.2.1, O.2.2.2.2.1, O.2.2.2.2.2), im, IL) X) (wO0 hA (P.1 : Int) O.1.2) ?_
  have g14 : (HP G h A N (K, (F, P, T, V), (((P.1 : Int), O.1.2), O.2.1, O.2.2.1, O.2.2.2.1, O.2.2.2.2.1, O.2.2.2.2.2), im, IL) X) (A 14) = some (obj 1 [.ref (A 15), .ref (A 20), .ref (A 23)]) := hGet hA _ _ 14 (by decide)
  have g20 : (HP G h A N (K, (F, P, T, V), (((P.1 : Int), O.1.2), O.2.1, O.2.2.1, O.2.2.2.1, O.2.2.2.2.1, O.2.2.2.2.2), im, IL) X) (A 20) = some (obj 4 [.int (zI ((P.1 : Int))), .ref (A 21), .ref (A 22)]) := hGet hA _ _ 20 (by decide)
  have g27 : (HP G h A N (K, (F, P, T, V), (((P.1 : Int), O.1.2), O.2.1, O.2.2.1, O.2.2.2.1, O.2.2.2.2.1, O.2.2.2.2.2), im, IL) X) (A 27) = some (obj 2 [.int (zI ((P.1 : Int))), .int (zI (O.1.2)), .ref (A 28), .ref (A 29), .ref (A 30), .ref (A 31), .ref (A 32)]) := hGet hA _ _ 27 (by decide)
  have g28 : (HP G h A N (K, (F, P, T, V), (((P.1 : Int), O.1.2), O.2.1, O.2.2.1, O.2.2.2.1, O.2.2.2.2.1, O.2.2.2.2.2), im, IL) X) (A 28) = some (arI G 6 O.2.1) := hGet hA _ _ 28 (by decide)
  have g29 : (HP G h A N (K, (F, P, T, V), (((P.1 : Int), O.1.2), O.2.1, O.2.2.1, O.2.2.2.1, O.2.2.2.2.1, O.2.2.2.2.2), im, IL) X) (A 29) = some (arI G 6 O.2.2.1) := hGet hA _ _ 29 (by decide)
  have g30 : (HP G h A N (K, (F, P, T, V), (((P.1 : Int), O.1.2), O.2.1, O.2.2.1, O.2.2.2.1, O.2.2.2.2.1, O.2.2.2.2.2), im, IL) X) (A 30) = some (arI G 36 O.2.2.2.1) := hGet hA _ _ 30 (by decide)
  have g31 : (HP G h A N (K, (F, P, T, V), (((P.1 : Int), O.1.2), O.2.1, O.2.2.1, O.2.2.2.1, O.2.2.2.2.1, O.2.2.2.2.2), im, IL) X) (A 31) = some (arI G 6 O.2.2.2.2.1) := hGet hA _ _ 31 (by decide)
  have g32 : (HP G h A N (K, (F, P, T, V), (((P.1 : Int), O.1.2), O.2.1, O.2.2.1, O.2.2.2.1, O.2.2.2.2.1, O.2.2.2.2.2), im, IL) X) (A 32) = some (arI G 6 O.2.2.2.2.2) := hGet hA _ _ 32 (by decide)
  refine EV.aload_n (i := 0) dX2_settle_21 rfl rfl ?_
  refine EV.iconst dX2_settle_22 ?_
  refine EV.putf (fs' := [.int (zI ((P.1 : Int))), .int (zI ((-1))), .ref (A 28), .ref (A 29), .ref (A 30), .ref (A 31), .ref (A 32)]) fp_X2_48 dX2_settle_23 g27 (Nat.le_of_ble_eq_true rfl) rfl rfl rfl ?_
  refine EV.hps (h' := HP G h A N (K, (F, P, T, V), (((P.1 : Int), (-1)), O.2.1, O.2.2.1, O.2.2.2.1, O.2.2.2.2.1, O.2.2.2.2.2), im, IL) X) (wO0 hA (P.1 : Int) (-1)) ?_
  have g14 : (HP G h A N (K, (F, P, T, V), (((P.1 : Int), (-1)), O.2.1, O.2.2.1, O.2.2.2.1, O.2.2.2.2.1, O.2.2.2.2.2), im, IL) X) (A 14) = some (obj 1 [.ref (A 15), .ref (A 20), .ref (A 23)]) := hGet hA _ _ 14 (by decide)
  have g20 : (HP G h A N (K, (F, P, T, V), (((P.1 : Int), (-1)), O.2.1, O.2.2.1, O.2.2.2.1, O.2.2.2.2.1, O.2.2.2.2.2), im, IL) X) (A 20) = some (obj 4 [.int (zI ((P.1 : Int))), .ref (A 21), .ref (A 22)]) := hGet hA _ _ 20 (by decide)
  have g27 : (HP G h A N (K, (F, P, T, V), (((P.1 : Int), (-1)), O.2.1, O.2.2.1, O.2.2.2.1, O.2.2.2.2.1, O.2.2.2.2.2), im, IL) X) (A 27) = some (obj 2 [.int (zI ((P.1 : Int))), .int (zI ((-1))), .ref (A 28), .ref (A 29), .ref (A 30), .ref (A 31), .ref (A 32)]) := hGet hA _ _ 27 (by decide)
  have g28 : (HP G h A N (K, (F, P, T, V), (((P.1 : Int), (-1)), O.2.1, O.2.2.1, O.2.2.2.1, O.2.2.2.2.1, O.2.2.2.2.2), im, IL) X) (A 28) = some (arI G 6 O.2.1) := hGet hA _ _ 28 (by decide)
  have g29 : (HP G h A N (K, (F, P, T, V), (((P.1 : Int), (-1)), O.2.1, O.2.2.1, O.2.2.2.1, O.2.2.2.2.1, O.2.2.2.2.2), im, IL) X) (A 29) = some (arI G 6 O.2.2.1) := hGet hA _ _ 29 (by decide)
  have g30 : (HP G h A N (K, (F, P, T, V), (((P.1 : Int), (-1)), O.2.1, O.2.2.1, O.2.2.2.1, O.2.2.2.2.1, O.2.2.2.2.2), im, IL) X) (A 30) = some (arI G 36 O.2.2.2.1) := hGet hA _ _ 30 (by decide)
  have g31 : (HP G h A N (K, (F, P, T, V), (((P.1 : Int), (-1)), O.2.1, O.2.2.1, O.2.2.2.1, O.2.2.2.2.1, O.2.2.2.2.2), im, IL) X) (A 31) = some (arI G 6 O.2.2.2.2.1) := hGet hA _ _ 31 (by decide)
  have g32 : (HP G h A N (K, (F, P, T, V), (((P.1 : Int), (-1)), O.2.1, O.2.2.1, O.2.2.2.1, O.2.2.2.2.1, O.2.2.2.2.2), im, IL) X) (A 32) = some (arI G 6 O.2.2.2.2.2) := hGet hA _ _ 32 (by decide)
  refine EV.iconst dX2_settle_26 ?_
  refine EV.istore_n (i := 3) (lv' := [some (.ref (A 27)), some (.ref (A 14)), some (.int (zI (fr))), some (.int (zI (0)))]) dX2_settle_27 rfl (by decide) rfl ?_
  have L28 : ∀ (n28 : Nat) (v : Nat) (pe co ch : Nat → Int) (x3 : Int) (hh : Hp), (v ≤ P.1) → (∀ u, u < v → pe u = (P.2.2 u : Int)) → (∀ u, u < v → ∃ c : Nat, co u = (c : Int) ∧ CHP (moC F P fr) fr u c ch) → P.1 - v < n28 → x3 = (v : Int) → hh = HP G h A N (K, (F, P, T, V), (((P.1 : Int), (-1)), pe, co, ch, O.2.2.2.2.1, O.2.2.2.2.2), im, IL) X → EV G l mX2_settle (d + 10) (fun o h' => o = none ∧ ∃ (O' : MO) (Lb : Nat → Int), O'.1.1 = (P.1 : Int) ∧ EE fr O'.2.2.2.2.2 Lb P.1 ∧ ropt (moC F P fr) (moD P) P.1 Lb ∧ (P.1 : Int) - (skp Lb P.1 : Int) = O'.1.2 ∧ h' = HP G h A N (K, (F, P, T, V), O', im, IL) X) 28 [some (.ref (A 27)), some (.ref (A 14)), some (.int (zI (fr))), some (.int (zI (x3)))] [] hh 0 0 := by
    intro n28
    induction n28 with
    | zero => intro _ _ _ _ _ _ _ _ _ hm; exact absurd hm (Nat.not_lt_zero _)
    | succ n28 ih28 =>
      intro v pe co ch x3 hh hv hpe hch hm28 e3 eh
      subst e3 eh
      have g14 : (HP G h A N (K, (F, P, T, V), (((P.1 : Int), (-1)), pe, co, ch, O.2.2.2.2.1, O.2.2.2.2.2), im, IL) X) (A 14) = some (obj 1 [.ref (A 15), .ref (A 20), .ref (A 23)]) := hGet hA _ _ 14 (by decide)
      have g20 : (HP G h A N (K, (F, P, T, V), (((P.1 : Int), (-1)), pe, co, ch, O.2.2.2.2.1, O.2.2.2.2.2), im, IL) X) (A 20) = some (obj 4 [.int (zI ((P.1 : Int))), .ref (A 21), .ref (A 22)]) := hGet hA _ _ 20 (by decide)
      have g27 : (HP G h A N (K, (F, P, T, V), (((P.1 : Int), (-1)), pe, co, ch, O.2.2.2.2.1, O.2.2.2.2.2), im, IL) X) (A 27) = some (obj 2 [.int (zI ((P.1 : Int))), .int (zI ((-1))), .ref (A 28), .ref (A 29), .ref (A 30), .ref (A 31), .ref (A 32)]) := hGet hA _ _ 27 (by decide)
      have g28 : (HP G h A N (K, (F, P, T, V), (((P.1 : Int), (-1)), pe, co, ch, O.2.2.2.2.1, O.2.2.2.2.2), im, IL) X) (A 28) = some (arI G 6 pe) := hGet hA _ _ 28 (by decide)
      have g29 : (HP G h A N (K, (F, P, T, V), (((P.1 : Int), (-1)), pe, co, ch, O.2.2.2.2.1, O.2.2.2.2.2), im, IL) X) (A 29) = some (arI G 6 co) := hGet hA _ _ 29 (by decide)
      have g30 : (HP G h A N (K, (F, P, T, V), (((P.1 : Int), (-1)), pe, co, ch, O.2.2.2.2.1, O.2.2.2.2.2), im, IL) X) (A 30) = some (arI G 36 ch) := hGet hA _ _ 30 (by decide)
      have g31 : (HP G h A N (K, (F, P, T, V), (((P.1 : Int), (-1)), pe, co, ch, O.2.2.2.2.1, O.2.2.2.2.2), im, IL) X) (A 31) = some (arI G 6 O.2.2.2.2.1) := hGet hA _ _ 31 (by decide)
      have g32 : (HP G h A N (K, (F, P, T, V), (((P.1 : Int), (-1)), pe, co, ch, O.2.2.2.2.1, O.2.2.2.2.2), im, IL) X) (A 32) = some (arI G 6 O.2.2.2.2.2) := hGet hA _ _ 32 (by decide)
      refine EV.iload_n (i := 3) dX2_settle_28 rfl rfl ?_
      refine EV.aload_n (i := 0) dX2_settle_29 rfl rfl ?_
      refine EV.getf fl_X2_45 dX2_settle_30 g27 rfl ?_
      refine EV.icmp_ge (t := 63) dX2_settle_33 (by decide) (by omega) (fun c33 => ?_) (fun c33 => ?_)
      · skip
        obtain rfl : v = P.1 := by omega
        refine EV.aload_n (i := 0) dX2_settle_63 rfl rfl ?_
        refine EV.iconst dX2_settle_64 ?_
        refine EV.iconst dX2_settle_65 ?_
        refine EV.callS (M' := mX2_search) (as := [.ref (A 27), .int (zI (0)), .int (zI (0))]) (rest := []) ml_X2_59 sm_X2_search co_X2_search dX2_settle_66 (c_search0 (d + 0) hA hK hW hP hT fr hfr hpe hch O.2.2.2.2.1 O.2.2.2.2.2) rfl rfl (Nat.le_of_ble_eq_true rfl) (Nat.le_of_ble_eq_true rfl) (Nat.le_of_ble_eq_true rfl) (fun v66 h66 q66 => ?_)
        obtain ⟨rfl, m', t', b', _, hsr, rfl⟩ := q66
        refine EV.sts (st' := []) rfl ?_
        refine EV.vret rfl dX2_settle_69 ?_
        obtain ⟨Lb, hEb, hro, hmm⟩ := SR_top hsr
        exact ⟨rfl, _, Lb, rfl, hEb, hro, hmm, rfl⟩
      · skip
        refine EV.aload_n (i := 0) dX2_settle_36 rfl rfl ?_
        refine EV.getf fl_X2_9 dX2_settle_37 g27 rfl ?_
        refine EV.iload_n (i := 3) dX2_settle_40 rfl rfl ?_
        refine EV.aload_n (i := 1) dX2_settle_41 rfl rfl ?_
        refine EV.getf fl_X2_27 dX2_settle_42 g14 rfl ?_
        refine EV.iload_n (i := 3) dX2_settle_45 rfl rfl ?_
        refine EV.callVr (M' := mX4_peopleOf) (as := [.int (zI ((v : Int)))]) (rest := [.int (zI ((v : Int))), .ref (A 28)]) ml_X2_51 im_X4_peopleOf se_X4_peopleOf rfl co_X4_peopleOf dX2_settle_46 g20 (c_X4_peopleOf (d + 7) hA v (by omega)) rfl rfl (Nat.le_of_ble_eq_true rfl) ?_
        refine EV.iast dX2_settle_49 g28 (v) (rfl) (by omega) ?_
        refine EV.hps (h' := HP G h A N (K, (F, P, T, V), (((P.1 : Int), (-1)), (uI pe v (P.2.2 v : Int)), co, ch, O.2.2.2.2.1, O.2.2.2.2.2), im, IL) X) (wO1 hA _) ?_
        have g14 : (HP G h A N (K, (F, P, T, V), (((P.1 : Int), (-1)), (uI pe v (P.2.2 v : Int)), co, ch, O.2.2.2.2.1, O.2.2.2.2.2), im, IL) X) (A 14) = some (obj 1 [.ref (A 15), .ref (A 20), .ref (A 23)]) := hGet hA _ _ 14 (by decide)
        have g20 : (HP G h A N (K, (F, P, T, V), (((P.1 : Int), (-1)), (uI pe v (P.2.2 v : Int)), co, ch, O.2.2.2.2.1, O.2.2.2.2.2), im, IL) X) (A 20) = some (obj 4 [.int (zI ((P.1 : Int))), .ref (A 21), .ref (A 22)]) := hGet hA _ _ 20 (by decide)
        have g27 : (HP G h A N (K, (F, P, T, V), (((P.1 : Int), (-1)), (uI pe v (P.2.2 v : Int)), co, ch, O.2.2.2.2.1, O.2.2.2.2.2), im, IL) X) (A 27) = some (obj 2 [.int (zI ((P.1 : Int))), .int (zI ((-1))), .ref (A 28), .ref (A 29), .ref (A 30), .ref (A 31), .ref (A 32)]) := hGet hA _ _ 27 (by decide)
        have g28 : (HP G h A N (K, (F, P, T, V), (((P.1 : Int), (-1)), (uI pe v (P.2.2 v : Int)), co, ch, O.2.2.2.2.1, O.2.2.2.2.2), im, IL) X) (A 28) = some (arI G 6 (uI pe v (P.2.2 v : Int))) := hGet hA _ _ 28 (by decide)
        have g29 : (HP G h A N (K, (F, P, T, V), (((P.1 : Int), (-1)), (uI pe v (P.2.2 v : Int)), co, ch, O.2.2.2.2.1, O.2.2.2.2.2), im, IL) X) (A 29) = some (arI G 6 co) := hGet hA _ _ 29 (by decide)
        have g30 : (HP G h A N (K, (F, P, T, V), (((P.1 : Int), (-1)), (uI pe v (P.2.2 v : Int)), co, ch, O.2.2.2.2.1, O.2.2.2.2.2), im, IL) X) (A 30) = some (arI G 36 ch) := hGet hA _ _ 30 (by decide)
        have g31 : (HP G h A N (K, (F, P, T, V), (((P.1 : Int), (-1)), (uI pe v (P.2.2 v : Int)), co, ch, O.2.2.2.2.1, O.2.2.2.2.2), im, IL) X) (A 31) = some (arI G 6 O.2.2.2.2.1) := hGet hA _ _ 31 (by decide)
        have g32 : (HP G h A N (K, (F, P, T, V), (((P.1 : Int), (-1)), (uI pe v (P.2.2 v : Int)), co, ch, O.2.2.2.2.1, O.2.2.2.2.2), im, IL) X) (A 32) = some (arI G 6 O.2.2.2.2.2) := hGet hA _ _ 32 (by decide)
        refine EV.aload_n (i := 0) dX2_settle_50 rfl rfl ?_
        refine EV.aload_n (i := 1) dX2_settle_51 rfl rfl ?_
        refine EV.iload_n (i := 3) dX2_settle_52 rfl rfl ?_
        refine EV.iload_n (i := 2) dX2_settle_53 rfl rfl ?_
        refine EV.callV (M' := mX2_collect) (as := [.ref (A 14), .int (zI ((v : Int))), .int (zI (fr))]) (rest := []) ml_X2_55 im_X2_collect se_X2_collect rfl co_X2_collect dX2_settle_54 g27 (c_X2_collect (d + 4) hA hK hW hP hT v fr (by omega) hfr) rfl rfl (Nat.le_of_ble_eq_true rfl) (Nat.le_of_ble_eq_true rfl) (Nat.le_of_ble_eq_true rfl) (fun v54 h54 q54 => ?_)
        obtain ⟨rfl, c, ch1, hcp, hof, rfl⟩ := q54
        refine EV.sts (st' := []) rfl ?_
        have g14 : (HP G h A N (K, (F, P, T, V), (((P.1 : Int), (-1)), (uI pe v (P.2.2 v : Int)), (uI co v (c : Int)), ch1, O.2.2.2.2.1, O.2.2.2.2.2), im, IL) X) (A 14) = some (obj 1 [.ref (A 15), .ref (A 20), .ref (A 23)]) := hGet hA _ _ 14 (by decide)
        have g20 : (HP G h A N (K, (F, P, T, V), (((P.1 : Int), (-1)), (uI pe v (P.2.2 v : Int)), (uI co v (c : Int)), ch1, O.2.2.2.2.1, O.2.2.2.2.2), im, IL) X) (A 20) = some (obj 4 [.int (zI ((P.1 : Int))), .ref (A 21), .ref (A 22)]) := hGet hA _ _ 20 (by decide)
        have g27 : (HP G h A N (K, (F, P, T, V), (((P.1 : Int), (-1)), (uI pe v (P.2.2 v : Int)), (uI co v (c : Int)), ch1, O.2.2.2.2.1, O.2.2.2.2.2), im, IL) X) (A 27) = some (obj 2 [.int (zI ((P.1 : Int))), .int (zI ((-1))), .ref (A 28), .ref (A 29), .ref (A 30), .ref (A 31), .ref (A 32)]) := hGet hA _ _ 27 (by decide)
        have g28 : (HP G h A N (K, (F, P, T, V), (((P.1 : Int), (-1)), (uI pe v (P.2.2 v : Int)), (uI co v (c : Int)), ch1, O.2.2.2.2.1, O.2.2.2.2.2), im, IL) X) (A 28) = some (arI G 6 (uI pe v (P.2.2 v : Int))) := hGet hA _ _ 28 (by decide)
        have g29 : (HP G h A N (K, (F, P, T, V), (((P.1 : Int), (-1)), (uI pe v (P.2.2 v : Int)), (uI co v (c : Int)), ch1, O.2.2.2.2.1, O.2.2.2.2.2), im, IL) X) (A 29) = some (arI G 6 (uI co v (c : Int))) := hGet hA _ _ 29 (by decide)
        have g30 : (HP G h A N (K, (F, P, T, V), (((P.1 : Int), (-1)), (uI pe v (P.2.2 v : Int)), (uI co v (c : Int)), ch1, O.2.2.2.2.1, O.2.2.2.2.2), im, IL) X) (A 30) = some (arI G 36 ch1) := hGet hA _ _ 30 (by decide)
        have g31 : (HP G h A N (K, (F, P, T, V), (((P.1 : Int), (-1)), (uI pe v (P.2.2 v : Int)), (uI co v (c : Int)), ch1, O.2.2.2.2.1, O.2.2.2.2.2), im, IL) X) (A 31) = some (arI G 6 O.2.2.2.2.1) := hGet hA _ _ 31 (by decide)
        have g32 : (HP G h A N (K, (F, P, T, V), (((P.1 : Int), (-1)), (uI pe v (P.2.2 v : Int)), (uI co v (c : Int)), ch1, O.2.2.2.2.1, O.2.2.2.2.2), im, IL) X) (A 32) = some (arI G 6 O.2.2.2.2.2) := hGet hA _ _ 32 (by decide)
        refine EV.iinc (i := 3) (lv' := [some (.ref (A 27)), some (.ref (A 14)), some (.int (zI (fr))), some (.int (zI ((v : Int) + 1)))]) dX2_settle_57 rfl (by decide) rfl ?_
        refine EV.goto (t := 28) dX2_settle_60 (by decide) ?_
        exact ih28 (v + 1) (uI pe v (P.2.2 v : Int)) (uI co v (c : Int)) ch1 _ _ (by omega) (fun u hu => by by_cases e : u = v; rw [e, uI_s]; rw [uI_n _ _ e]; exact hpe u (by omega)) (fun u hu => by by_cases e : u = v; exact ⟨c, by rw [e, uI_s], by rw [e]; exact hcp⟩; obtain ⟨c2, h2, h3⟩ := hch u (by omega); exact ⟨c2, by rw [uI_n _ _ e]; exact h2, CHP_cg h3 (fun x hx => hof x (by omega))⟩) (by omega) (rfl) (rfl)
  exact L28 _ 0 O.2.1 O.2.2.1 O.2.2.2.1 _ _ (by omega) (fun u hu => absurd hu (Nat.not_lt_zero _)) (fun u hu => absurd hu (Nat.not_lt_zero _)) (Nat.lt_succ_self _) (rfl) (rfl)
set_option maxHeartbeats 4000000 in
set_option maxRecDepth 20000 in
theorem c_X2_dateOf (d : Nat) (hA : inA A N) (hP : WFP P) (v : Nat) (hv : v < P.1) (hO : O.1.1 = (P.1 : Int)) : CT G l mX2_dateOf (d + 2) 0 0 [.ref (A 27), .int (zI ((v : Int)))] (HP G h A N (K, (F, P, T, V), O, im, IL) X) (RQ (HP G h A N (K, (F, P, T, V), O, im, IL) X) (O.2.2.2.2.2 v)) := by
  refine CT.of (by decide) (Nat.le_of_ble_eq_true rfl) (List.forall_mem_cons.mpr ⟨rfl, List.forall_mem_cons.mpr ⟨rfl, fun _ h => absurd h List.not_mem_nil⟩⟩) ?_
  refine EV.lvs (lv' := [some (.ref (A 27)), some (.int (zI ((v : Int))))]) rfl ?_
  have g27 : (HP G h A N (K, (F, P, T, V), O, im, IL) X) (A 27) = some (obj 2 [.int (zI (O.1.1)), .int (zI (O.1.2)), .ref (A 28), .ref (A 29), .ref (A 30), .ref (A 31), .ref (A 32)]) := hGet hA _ _ 27 (by decide)
  have g32 : (HP G h A N (K, (F, P, T, V), O, im, IL) X) (A 32) = some (arI G 6 O.2.2.2.2.2) := hGet hA _ _ 32 (by decide)
  have hP6 := hP.1
  refine EV.iload_n (i := 1) dX2_dateOf_0 rfl rfl ?_
  refine EV.aload_n (i := 0) dX2_dateOf_1 rfl rfl ?_
  refine EV.getf fl_X2_45 dX2_dateOf_2 g27 rfl ?_
  refine EV.callSNr (M' := mX6_isOneOf) (as := [.int (zI ((v : Int))), .int (zI (O.1.1))]) (rest := []) (host := RX6) (by decide) sm_X6_isOneOf co_X6_isOneOf dX2_dateOf_5 (c_X6_isOneOf (d + 0) (v : Int) O.1.1 (by omega) (by omega)) rfl rfl (Nat.le_of_ble_eq_true rfl) ?_
  refine EV.ifeqB (t := 20) dX2_dateOf_8 (by decide) (fun c8 => ?_) (fun c8 => ?_)
  · skip
    have c8r := of_nrg c8
    rw [rg_t (by omega)] at c8
    cases c8
  · skip
    have c8r := of_rg c8
    refine EV.aload_n (i := 0) dX2_dateOf_11 rfl rfl ?_
    refine EV.getf fl_X2_24 dX2_dateOf_12 g27 rfl ?_
    refine EV.iload_n (i := 1) dX2_dateOf_15 rfl rfl ?_
    refine EV.iald dX2_dateOf_16 g32 (v) (rfl) (by omega) ?_
    refine EV.goto (t := 22) dX2_dateOf_17 (by decide) ?_
    refine EV.iret rfl dX2_dateOf_22 ?_
    exact rQ rfl
set_option maxHeartbeats 4000000 in
set_option maxRecDepth 20000 in
theorem c_X6_month (d : Nat) (hA : inA A N) (hK : WFK K) (hW : WF F) (hP : WFP P) (hT : WFT T) (t w : Int) (ht : inR t) (hw : inR w) : CT G l mX6_month (d + 11) 0 0 [.ref (A 11), .int (zI (t)), .int (zI (w))] (HP G h A N (K, (F, P, T, V), O, im, IL) X) (fun o h' => o = some (.int (zI (monthR F P t w))) ∧ ∃ O' : MO, h' = HP G h A N (K, (F, P, T, V), O', im, IL) X) := by
  refine CT.of (by decide) (Nat.le_of_ble_eq_true rfl) (List.forall_mem_cons.mpr ⟨rfl, List.forall_mem_cons.mpr ⟨rfl, List.forall_mem_cons.mpr ⟨rfl, fun _ h => absurd h List.not_mem_nil⟩⟩⟩) ?_
  refine EV.lvs (lv' := [some (.ref (A 11)), some (.int (zI (t))), some (.int (zI (w)))]) rfl ?_
  have g11 : (HP G h A N (K, (F, P, T, V), O, im, IL) X) (A 11) = some (obj 6 [.ref (A 12), .ref (A 14), .ref (A 26), .ref (A 27)]) := hGet hA _ _ 11 (by decide)
  have g14 : (HP G h A N (K, (F, P, T, V), O, im, IL) X) (A 14) = some (obj 1 [.ref (A 15), .ref (A 20), .ref (A 23)]) := hGet hA _ _ 14 (by decide)
  have g20 : (HP G h A N (K, (F, P, T, V), O, im, IL) X) (A 20) = some (obj 4 [.int (zI ((P.1 : Int))), .ref (A 21), .ref (A 22)]) := hGet hA _ _ 20 (by decide)
  have g27 : (HP G h A N (K, (F, P, T, V), O, im, IL) X) (A 27) = some (obj 2 [.int (zI (O.1.1)), .int (zI (O.1.2)), .ref (A 28), .ref (A 29), .ref (A 30), .ref (A 31), .ref (A 32)]) := hGet hA _ _ 27 (by decide)
  have hK6 := hK.1
  have hP6 := hP.1
  have hT6 := hT.1
  have hth := hW.1
  have hF : FolkAt G (HP G h A N (K, (F, P, T, V), O, im, IL) X) F (A 15) (A 16) (A 17) (A 18) (A 19) V := hFolk hA
  refine EV.iload_n (i := 2) dX6_month_0 rfl rfl ?_
  refine EV.iconst dX6_month_1 ?_
  refine EV.icmp_eq (t := 24) dX6_month_2 (by decide) (by omega) (fun c2 => ?_) (fun c2 => ?_)
  · skip
    have hwy : w = -1 ∨ rg w 0 ((P.1 : Int) - 1) = true := Or.inl c2
    refine EV.iload_n (i := 1) dX6_month_24 rfl rfl ?_
    refine EV.iflt (t := 35) dX6_month_25 (by decide) (by omega) (fun c25 => ?_) (fun c25 => ?_)
    · skip
      refine EV.bipush dX6_month_35 (by decide) ?_
      refine EV.iret rfl dX6_month_37 ?_
      exact ⟨by rw [monthR, if_pos hwy, if_neg (by rw [rg_f (by omega)]; decide)], _, rfl⟩
    · skip
      refine EV.iload_n (i := 1) dX6_month_28 rfl rfl ?_
      refine EV.sipush dX6_month_29 (by decide) ?_
      refine EV.icmp_le (t := 38) dX6_month_32 (by decide) (by omega) (fun c32 => ?_) (fun c32 => ?_)
      · skip
        refine EV.aload_n (i := 0) dX6_month_38 rfl rfl ?_
        refine EV.getf fl_X6_30 dX6_month_39 g11 rfl ?_
        refine EV.aload_n (i := 0) dX6_month_42 rfl rfl ?_
        refine EV.getf fl_X6_19 dX6_month_43 g11 rfl ?_
        refine EV.iload_n (i := 1) dX6_month_46 rfl rfl ?_
        refine EV.callV (M' := mX2_settle) (as := [.ref (A 14), .int (zI (t))]) (rest := []) ml_X6_140 im_X2_settle se_X2_settle rfl co_X2_settle dX6_month_47 g27 (c_X2_settle (d + 0) hA hK hW hP hT t (by omega)) rfl rfl (Nat.le_of_ble_eq_true rfl) (Nat.le_of_ble_eq_true rfl) (Nat.le_of_ble_eq_true rfl) (fun v47 h47 q47 => ?_)
        obtain ⟨rfl, ⟨⟨ow, om⟩, o1, o2, o3, o4, o5⟩, Lb, ho1, hEb, hro, hmm, rfl⟩ := q47
        refine EV.sts (st' := []) rfl ?_
        have ho1 : ow = (P.1 : Int) := ho1
        have hmm : (P.1 : Int) - (skp Lb P.1 : Int) = om := hmm
        have hEb : EE t o5 Lb P.1 := hEb
        have g11 : (HP G h A N (K, (F, P, T, V), ((ow, om), o1, o2, o3, o4, o5), im, IL) X) (A 11) = some (obj 6 [.ref (A 12), .ref (A 14), .ref (A 26), .ref (A 27)]) := hGet hA _ _ 11 (by decide)
        have g14 : (HP G h A N (K, (F, P, T, V), ((ow, om), o1, o2, o3, o4, o5), im, IL) X) (A 14) = some (obj 1 [.ref (A 15), .ref (A 20), .ref (A 23)]) := hGet hA _ _ 14 (by decide)
        have g20 : (HP G h A N (K, (F, P, T, V), ((ow, om), o1, o2, o3, o4, o5), im, IL) X) (A 20) = some (obj 4 [.int (zI ((P.1 : Int))), .ref (A 21), .ref (A 22)]) := hGet hA _ _ 20 (by decide)
        have g27 : (HP G h A N (K, (F, P, T, V), ((ow, om), o1, o2, o3, o4, o5), im, IL) X) (A 27) = some (obj 2 [.int (zI (ow)), .int (zI (om)), .ref (A 28), .ref (A 29), .ref (A 30), .ref (A 31), .ref (A 32)]) := hGet hA _ _ 27 (by decide)
        have g32 : (HP G h A N (K, (F, P, T, V), ((ow, om), o1, o2, o3, o4, o5), im, IL) X) (A 32) = some (arI G 6 o5) := hGet hA _ _ 32 (by decide)
        refine EV.iload_n (i := 2) dX6_month_50 rfl rfl ?_
        refine EV.iconst dX6_month_51 ?_
        refine EV.icmp_ne (t := 65) dX6_month_52 (by decide) (by omega) (fun c52 => ?_) (fun c52 => ?_)
        · skip
          have hw2 := of_rg (hwy.resolve_left c52)
          obtain ⟨v, rfl⟩ : ∃ v : Nat, w = (v : Int) := ⟨w.toNat, by omega⟩
          refine EV.aload_n (i := 0) dX6_month_65 rfl rfl ?_
          refine EV.getf fl_X6_30 dX6_month_66 g11 rfl ?_
          refine EV.iload_n (i := 2) dX6_month_69 rfl rfl ?_
          refine EV.callVr (M' := mX2_dateOf) (as := [.int (zI ((v : Int)))]) (rest := []) ml_X6_146 im_X2_dateOf se_X2_dateOf rfl co_X2_dateOf dX6_month_70 g27 (c_X2_dateOf (d + 8) hA hP v (by omega) ho1) rfl rfl (Nat.le_of_ble_eq_true rfl) ?_
          refine EV.top (y := zI (o5 v)) (rfl) ?_
          refine EV.iret rfl dX6_month_73 ?_
          exfalso; omega
        · skip
          refine EV.aload_n (i := 0) dX6_month_55 rfl rfl ?_
          refine EV.getf fl_X6_30 dX6_month_56 g11 rfl ?_
          refine EV.getf fl_X6_143 dX6_month_59 g27 rfl ?_
          refine EV.goto (t := 73) dX6_month_62 (by decide) ?_
          refine EV.iret rfl dX6_month_73 ?_
          exact ⟨by rw [← monthR_y hwy (rg_t (by omega)) (ropt_mopt hP6 hro), moA, if_pos c2, hmm], _, rfl⟩
      · skip
        refine EV.bipush dX6_month_35 (by decide) ?_
        refine EV.iret rfl dX6_month_37 ?_
        exact ⟨by rw [monthR, if_pos hwy, if_neg (by rw [rg_f (by omega)]; decide)], _, rfl⟩
  · skip
    refine EV.iload_n (i := 2) dX6_month_5 rfl rfl ?_
    refine EV.aload_n (i := 0) dX6_month_6 rfl rfl ?_
    refine EV.getf fl_X6_19 dX6_month_7 g11 rfl ?_
    refine EV.getf fl_X6_81 dX6_month_10 g14 rfl ?_
    refine EV.getf fl_X6_91 dX6_month_13 g20 rfl ?_
    refine EV.callSr (M' := mX6_isOneOf) (as := [.int (zI (w)), .int (zI ((P.1 : Int)))]) (rest := []) ml_X6_42 sm_X6_isOneOf co_X6_isOneOf dX6_month_16 (c_X6_isOneOf (d + 9) w (P.1 : Int) (by omega) (by omega)) rfl rfl (Nat.le_of_ble_eq_true rfl) ?_
    refine EV.ifneB (t := 24) dX6_month_19 (by decide) (fun c19 => ?_) (fun c19 => ?_)
    · skip
      have c19r := of_rg c19
      have hwy : w = -1 ∨ rg w 0 ((P.1 : Int) - 1) = true := Or.inr c19
      refine EV.iload_n (i := 1) dX6_month_24 rfl rfl ?_
      refine EV.iflt (t := 35) dX6_month_25 (by decide) (by omega) (fun c25 => ?_) (fun c25 => ?_)
      · skip
        refine EV.bipush dX6_month_35 (by decide) ?_
        refine EV.iret rfl dX6_month_37 ?_
        exact ⟨by rw [monthR, if_pos hwy, if_neg (by rw [rg_f (by omega)]; decide)], _, rfl⟩
      · skip
        refine EV.iload_n (i := 1) dX6_month_28 rfl rfl ?_
        refine EV.sipush dX6_month_29 (by decide) ?_
        refine EV.icmp_le (t := 38) dX6_month_32 (by decide) (by omega) (fun c32 => ?_) (fun c32 => ?_)
        · skip
          refine EV.aload_n (i := 0) dX6_month_38 rfl rfl ?_
          refine EV.getf fl_X6_30 dX6_month_39 g11 rfl ?_
          refine EV.aload_n (i := 0) dX6_month_42 rfl rfl ?_
          refine EV.getf fl_X6_19 dX6_month_43 g11 rfl ?_
          refine EV.iload_n (i := 1) dX6_month_46 rfl rfl ?_
          refine EV.callV (M' := mX2_settle) (as := [.ref (A 14), .int (zI (t))]) (rest := []) ml_X6_140 im_X2_settle se_X2_settle rfl co_X2_settle dX6_month_47 g27 (c_X2_settle (d + 0) hA hK hW hP hT t (by omega)) rfl rfl (Nat.le_of_ble_eq_true rfl) (Nat.le_of_ble_eq_true rfl) (Nat.le_of_ble_eq_true rfl) (fun v47 h47 q47 => ?_)
          obtain ⟨rfl, ⟨⟨ow, om⟩, o1, o2, o3, o4, o5⟩, Lb, ho1, hEb, hro, hmm, rfl⟩ := q47
          refine EV.sts (st' := []) rfl ?_
          have ho1 : ow = (P.1 : Int) := ho1
          have hmm : (P.1 : Int) - (skp Lb P.1 : Int) = om := hmm
          have hEb : EE t o5 Lb P.1 := hEb
          have g11 : (HP G h A N (K, (F, P, T, V), ((ow, om), o1, o2, o3, o4, o5), im, IL) X) (A 11) = some (obj 6 [.ref (A 12), .ref (A 14), .ref (A 26), .ref (A 27)]) := hGet hA _ _ 11 (by decide)
          have g14 : (HP G h A N (K, (F, P, T, V), ((ow, om), o1, o2, o3, o4, o5), im, IL) X) (A 14) = some (obj 1 [.ref (A 15), .ref (A 20), .ref (A 23)]) := hGet hA _ _ 14 (by decide)
          have g20 : (HP G h A N (K, (F, P, T, V), ((ow, om), o1, o2, o3, o4, o5), im, IL) X) (A 20) = some (obj 4 [.int (zI ((P.1 : Int))), .ref (A 21), .ref (A 22)]) := hGet hA _ _ 20 (by decide)
          have g27 : (HP G h A N (K, (F, P, T, V), ((ow, om), o1, o2, o3, o4, o5), im, IL) X) (A 27) = some (obj 2 [.int (zI (ow)), .int (zI (om)), .ref (A 28), .ref (A 29), .ref (A 30), .ref (A 31), .ref (A 32)]) := hGet hA _ _ 27 (by decide)
          have g32 : (HP G h A N (K, (F, P, T, V), ((ow, om), o1, o2, o3, o4, o5), im, IL) X) (A 32) = some (arI G 6 o5) := hGet hA _ _ 32 (by decide)
          refine EV.iload_n (i := 2) dX6_month_50 rfl rfl ?_
          refine EV.iconst dX6_month_51 ?_
          refine EV.icmp_ne (t := 65) dX6_month_52 (by decide) (by omega) (fun c52 => ?_) (fun c52 => ?_)
          · skip
            have hw2 := of_rg (hwy.resolve_left c52)
            obtain ⟨v, rfl⟩ : ∃ v : Nat, w = (v : Int) := ⟨w.toNat, by omega⟩
            refine EV.aload_n (i := 0) dX6_month_65 rfl rfl ?_
            refine EV.getf fl_X6_30 dX6_month_66 g11 rfl ?_
            refine EV.iload_n (i := 2) dX6_month_69 rfl rfl ?_
            refine EV.callVr (M' := mX2_dateOf) (as := [.int (zI ((v : Int)))]) (rest := []) ml_X6_146 im_X2_dateOf se_X2_dateOf rfl co_X2_dateOf dX6_month_70 g27 (c_X2_dateOf (d + 8) hA hP v (by omega) ho1) rfl rfl (Nat.le_of_ble_eq_true rfl) ?_
            refine EV.top (y := zI (o5 v)) (rfl) ?_
            refine EV.iret rfl dX6_month_73 ?_
            rcases hEb v (by omega) with ⟨e1, e2⟩ | ⟨e1, e2, e3⟩
            · exact ⟨by rw [← monthR_y hwy (rg_t (by omega)) (ropt_mopt hP6 hro), moA, if_neg (by omega), Int.toNat_natCast, if_neg (by omega), e1], _, rfl⟩
            · exact ⟨by rw [← monthR_y hwy (rg_t (by omega)) (ropt_mopt hP6 hro), moA, if_neg (by omega), Int.toNat_natCast, if_pos e3, e1], _, rfl⟩
          · skip
            refine EV.aload_n (i := 0) dX6_month_55 rfl rfl ?_
            refine EV.getf fl_X6_30 dX6_month_56 g11 rfl ?_
            refine EV.getf fl_X6_143 dX6_month_59 g27 rfl ?_
            refine EV.goto (t := 73) dX6_month_62 (by decide) ?_
            refine EV.iret rfl dX6_month_73 ?_
            exact ⟨by rw [← monthR_y hwy (rg_t (by omega)) (ropt_mopt hP6 hro), moA, if_pos c52, hmm], _, rfl⟩
        · skip
          refine EV.bipush dX6_month_35 (by decide) ?_
          refine EV.iret rfl dX6_month_37 ?_
          exact ⟨by rw [monthR, if_pos hwy, if_neg (by rw [rg_f (by omega)]; decide)], _, rfl⟩
    · skip
      have c19r := of_nrg c19
      refine EV.iconst dX6_month_22 ?_
      refine EV.iret rfl dX6_month_23 ?_
      exact ⟨by rw [monthR, if_neg (fun z => by rcases z with z | z; exact c2 z; rw [c19] at z; cases z)], _, rfl⟩
end
