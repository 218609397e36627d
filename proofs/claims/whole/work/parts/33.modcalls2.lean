def riB (F : FK) (n p : Nat) : Bool := F.1.testBit p && exn (rcB F p) n
theorem ri_s (F : FK) (t : Nat) : orb (riB F t) 6 ||| hv F (ft F (t : Int)) (t : Int) = orb (riB F (t + 1)) 6 := by
  refine Nat.eq_of_testBit_eq (fun i => ?_)
  rw [Nat.testBit_or, orb_bit, orb_bit, hv, orb_bit]
  by_cases hi : i < 6
  · rw [decide_eq_true hi]
    unfold riB
    rw [exn_s]
    have h1 : rcB F i t = hvB F (ft F (t : Int)) (t : Int) i := rfl
    rw [h1]
    unfold hvB
    cases F.1.testBit i <;> cases exn (rcB F i) t <;> simp
  · rw [decide_eq_false hi]; rfl
theorem ri_0 {F : FK} (hW : WF F) {t : Nat} (h : ft F (t : Int) < 0) : orb (riB F t) 6 = orb (riB F (t + 1)) 6 := by
  rw [← ri_s]
  have : hv F (ft F (t : Int)) (t : Int) = 0 := by
    refine Nat.eq_of_testBit_eq (fun i => ?_)
    rw [Nat.zero_testBit, hv, orb_bit]
    by_cases hi : i < 6
    · unfold hvB
      cases hb : F.1.testBit i with
      | false => simp
      | true =>
        have := hW.dy hi hb (t : Int)
        rw [decide_eq_false (show ¬ dy F i (t : Int) = ft F (t : Int) by omega)]; simp
    · rw [decide_eq_false hi]; rfl
  rw [this, Nat.or_zero]
theorem ri_e (F : FK) (hth : F.1 < 64) : F.1 &&& (63 ^^^ orb (riB F 840) 6) = orb (poB F 840) 6 := by
  refine Nat.eq_of_testBit_eq (fun i => ?_)
  rw [Nat.testBit_and, Nat.testBit_xor, orb_bit, orb_bit]
  by_cases hi : i < 6
  · have h63 : (63 : Nat).testBit i = true := (by decide : ∀ i, i < 6 → (63 : Nat).testBit i = true) i hi
    rw [decide_eq_true hi, h63]
    unfold riB poB
    cases F.1.testBit i <;> cases exn (rcB F i) 840 <;> rfl
  · have h6 : 2 ^ 6 ≤ 2 ^ i := Nat.pow_le_pow_right (by decide) (by omega)
    rw [decide_eq_false hi, Nat.testBit_lt_two_pow (Nat.lt_of_lt_of_le hth h6)]; rfl
theorem ri_z (F : FK) : (0 : Nat) = orb (riB F 0) 6 := by
  refine Nat.eq_of_testBit_eq (fun i => ?_)
  rw [Nat.zero_testBit, orb_bit]
  unfold riB
  rw [show exn (rcB F i) 0 = false from exn_f (fun j hj => absurd hj (Nat.not_lt_zero _))]; simp
theorem cs_n {F : FK} {q n : Nat} (h : F.1.testBit n = false) : csum F q n = csum F q (n + 1) := by rw [csum, h]; simp
theorem cs_y {F : FK} {q n : Nat} (h : F.1.testBit n = true) : csum F q n + cst F n q = csum F q (n + 1) := by rw [csum, if_pos h]
def suO (F : FK) (T : ST) (t : Int) (n : Nat) : Bool := wlF F T (n / 8) (n % 8) && !(decide (dy F (n / 8) t = ((n % 8 : Nat) : Int)))
theorem suO_e {F : FK} {T : ST} {t : Int} {p q : Nat} (hq : q < 8) : suO F T t (8 * p + q) = (wlF F T p q && !(decide (dy F p t = (q : Int)))) := by
  unfold suO
  rw [show (8 * p + q) / 8 = p by omega, show (8 * p + q) % 8 = q by omega]
theorem cnt_sp (a b : Nat → Bool) : ∀ n, cnt (fun n => a n && b n) n + cnt (fun n => a n && !(b n)) n = cnt a n
  | 0 => rfl
  | n + 1 => by
    have h := cnt_sp a b n
    have h1 : cnt (fun n => a n && b n) (n + 1) = cnt (fun n => a n && b n) n + (if (a n && b n) then 1 else 0) := cnt_s _ n
    have h2 : cnt (fun n => a n && !(b n)) (n + 1) = cnt (fun n => a n && !(b n)) n + (if (a n && !(b n)) then 1 else 0) := cnt_s _ n
    have h3 := cnt_s a n
    have e1 : (if (a n && b n) then 1 else 0) + (if (a n && !(b n)) then 1 else 0) = ((if a n then 1 else 0) : Nat) := by cases a n <;> cases b n <;> rfl
    rw [h1, h2, h3]
    omega
theorem su_sum (F : FK) (T : ST) (t : Int) (n : Nat) : cnt (suS F T t) n + cnt (suO F T t) n = cnt (suA F T) n := cnt_sp (suA F T) (fun n => decide (dy F (n / 8) t = ((n % 8 : Nat) : Int))) n
def tnB (D t : Int) (n : Nat) : Bool := decide (tn ((n / 7 : Nat) : Int) (t - ((n % 7 : Nat) : Int)) = D)
theorem tnB_e {D t : Int} {w b : Nat} (hb : b < 7) : tnB D t (7 * w + b) = decide (tn (w : Int) (t - (b : Int)) = D) := by
  unfold tnB
  rw [show (7 * w + b) / 7 = w by omega, show (7 * w + b) % 7 = b by omega]
theorem tn_per (w t b : Int) : tn w (t - b) = tn w (t % 7 - b) := by
  unfold tn
  rw [show (t - b) % 7 = (t % 7 - b) % 7 by omega]
theorem tnh {D t : Int} (hD : 0 ≤ D ∧ D ≤ 7) : cnt (tnB D t) 98 = hitN D := by
  have h : ∀ r : Nat, r < 7 → ∀ e : Nat, e < 8 → cnt (tnB (e : Int) (r : Int)) 98 = hitN (e : Int) := by decide +kernel
  have h1 : cnt (tnB D t) 98 = cnt (tnB D (t % 7)) 98 := cnt_cg (fun i _ => by unfold tnB; rw [tn_per])
  obtain ⟨r, hr⟩ : ∃ r : Nat, t % 7 = (r : Int) := ⟨(t % 7).toNat, by omega⟩
  obtain ⟨e, he⟩ : ∃ e : Nat, D = (e : Int) := ⟨D.toNat, by omega⟩
  rw [h1, hr, he]
  exact h r (by omega) e (by omega)
theorem gcd_st {x y : Nat} : Nat.gcd x y = Nat.gcd y (x % y) := by rw [Nat.gcd_comm x y, Nat.gcd_rec y x, Nat.gcd_comm]
theorem gcd_98 (D : Int) : Nat.gcd (hitN D) 98 = if D = 7 then 98 else 14 := by
  unfold hitN; split <;> decide
theorem ch_fin2 {D w : Int} : (Int.tdiv (if w = 0 then (hitN D : Int) else 98) ((Nat.gcd (hitN D) 98 : Nat) : Int)) = chV D w := by
  rw [gcd_98]
  unfold hitN chV
  by_cases h : D = 7 <;> by_cases h2 : w = 0 <;> simp only [h, h2, if_true, if_false] <;> rfl
section
variable {G : GG} {l : Launch}
variable {h : Hp} {m : Nat} {A : Nat → Nat} {F : FK} {P : PL} {T : ST} {K : PD} {la im ik : Nat → Int}
set_option maxHeartbeats 4000000 in
set_option maxRecDepth 20000 in
theorem c_X7_feast (d : Nat) (hM : ModAt G h m A F P T K la im ik) (hW : WF F) (hK : WFK K) (hP : WFP P) (hT : WFT T) (t : Int) (ht : inR t) : CT G l mX7_feast (d + 4) 0 0 [.ref m, .int (zI (t))] h (RQ h (feastR F t)) := by
  refine CT.of (by decide) (Nat.le_of_ble_eq_true rfl) (List.forall_mem_cons.mpr ⟨rfl, List.forall_mem_cons.mpr ⟨rfl, fun _ h => absurd h List.not_mem_nil⟩⟩) ?_
  refine EV.lvs (lv' := [some (.ref m), some (.int (zI (t)))]) rfl ?_
  have ⟨hcm, hc0, hc1, hc2, hc3, hc4, hc5, hc6, hc7, hc8, hc9⟩ := hM
  have hth := hW.1
  have hK6 := hK.1
  have hP6 := hP.1
  have hT6 := hT.1
  have hsf : ∀ q, q < 6 → F.1.testBit q = true → F.1.testBit q = true := fun _ _ z => z
  refine EV.iload_n (i := 1) dX7_feast_0 rfl rfl ?_
  refine EV.callSr (M' := mX7_isDate) (as := [.int (zI (t))]) (rest := []) ml_X7_77 sm_X7_isDate co_X7_isDate dX7_feast_1 (c_X7_isDate (d + 1) t (by omega)) rfl rfl (Nat.le_of_ble_eq_true rfl) ?_
  refine EV.ifeqB (t := 15) dX7_feast_4 (by decide) (fun c4 => ?_) (fun c4 => ?_)
  · skip
    have c4r := of_nrg c4
    refine EV.bipush dX7_feast_15 (by decide) ?_
    refine EV.iret rfl dX7_feast_17 ?_
    exact rQ (by rw [feastR, if_neg (by rw [c4]; decide)])
  · skip
    have c4r := of_rg c4
    refine EV.aload_n (i := 0) dX7_feast_7 rfl rfl ?_
    refine EV.iload_n (i := 1) dX7_feast_8 rfl rfl ?_
    refine EV.callVr (M' := mX7_feastOn) (as := [.int (zI (t))]) (rest := []) ml_X7_122 im_X7_feastOn se_X7_feastOn rfl co_X7_feastOn dX7_feast_9 hcm (c_X7_feastOn (d + 0) hM hW t (by omega)) rfl rfl (Nat.le_of_ble_eq_true rfl) ?_
    have hft := ft_in F t
    refine EV.goto (t := 17) dX7_feast_12 (by decide) ?_
    refine EV.iret rfl dX7_feast_17 ?_
    exact rQ (by rw [feastR, if_pos c4])
set_option maxHeartbeats 4000000 in
set_option maxRecDepth 20000 in
theorem c_X7_feasts (d : Nat) (hM : ModAt G h m A F P T K la im ik) (hW : WF F) (hK : WFK K) (hP : WFP P) (hT : WFT T) (D : Int) (hD : inR D) : CT G l mX7_feasts (d + 4) 0 0 [.ref m, .int (zI (D))] h (RQ h (feastsR F D)) := by
  refine CT.of (by decide) (Nat.le_of_ble_eq_true rfl) (List.forall_mem_cons.mpr ⟨rfl, List.forall_mem_cons.mpr ⟨rfl, fun _ h => absurd h List.not_mem_nil⟩⟩) ?_
  refine EV.lvs (lv' := [some (.ref m), some (.int (zI (D))), none, none]) rfl ?_
  have ⟨hcm, hc0, hc1, hc2, hc3, hc4, hc5, hc6, hc7, hc8, hc9⟩ := hM
  have hth := hW.1
  have hK6 := hK.1
  have hP6 := hP.1
  have hT6 := hT.1
  have hsf : ∀ q, q < 6 → F.1.testBit q = true → F.1.testBit q = true := fun _ _ z => z
  refine EV.iload_n (i := 1) dX7_feasts_0 rfl rfl ?_
  refine EV.callSr (M' := mX7_isDay) (as := [.int (zI (D))]) (rest := []) ml_X7_56 sm_X7_isDay co_X7_isDay dX7_feasts_1 (c_X7_isDay (d + 1) D (by omega)) rfl rfl (Nat.le_of_ble_eq_true rfl) ?_
  refine EV.ifneB (t := 9) dX7_feasts_4 (by decide) (fun c4 => ?_) (fun c4 => ?_)
  · skip
    have c4r := of_rg c4
    refine EV.iconst dX7_feasts_9 ?_
    refine EV.istore_n (i := 2) (lv' := [some (.ref m), some (.int (zI (D))), some (.int (zI (0))), none]) dX7_feasts_10 rfl (by decide) rfl ?_
    refine EV.iconst dX7_feasts_11 ?_
    refine EV.istore_n (i := 3) (lv' := [some (.ref m), some (.int (zI (D))), some (.int (zI (0))), some (.int (zI (0)))]) dX7_feasts_12 rfl (by decide) rfl ?_
    have L13 : ∀ (n13 : Nat) (t : Nat) (x2 x3 : Int), (t ≤ 840) → 840 - t < n13 → x2 = ((cnt (fdB F D) t : Nat) : Int) → x3 = (t : Int) → EV G l mX7_feasts (d + 4) (RQ h (feastsR F D)) 13 [some (.ref m), some (.int (zI (D))), some (.int (zI (x2))), some (.int (zI (x3)))] [] h 0 0 := by
      intro n13
      induction n13 with
      | zero => intro _ _ _ _ hm; exact absurd hm (Nat.not_lt_zero _)
      | succ n13 ih13 =>
        intro t x2 x3 ht hm13 e2 e3
        subst e2 e3
        have hcl := cnt_le (fdB F D) t
        refine EV.iload_n (i := 3) dX7_feasts_13 rfl rfl ?_
        refine EV.sipush dX7_feasts_14 (by decide) ?_
        refine EV.icmp_ge (t := 43) dX7_feasts_17 (by decide) (by omega) (fun c17 => ?_) (fun c17 => ?_)
        · skip
          obtain rfl : t = 840 := by omega
          refine EV.iload_n (i := 2) dX7_feasts_43 rfl rfl ?_
          refine EV.iret rfl dX7_feasts_44 ?_
          exact rQ (by rw [feastsR, if_pos c4])
        · skip
          refine EV.iload_n (i := 2) dX7_feasts_20 rfl rfl ?_
          refine EV.aload_n (i := 0) dX7_feasts_21 rfl rfl ?_
          refine EV.iload_n (i := 3) dX7_feasts_22 rfl rfl ?_
          refine EV.callVr (M' := mX7_feastOn) (as := [.int (zI ((t : Int)))]) (rest := [.int (zI (((cnt (fdB F D) t : Nat) : Int)))]) ml_X7_122 im_X7_feastOn se_X7_feastOn rfl co_X7_feastOn dX7_feasts_23 hcm (c_X7_feastOn (d + 0) hM hW (t : Int) (by omega)) rfl rfl (Nat.le_of_ble_eq_true rfl) ?_
          have hft := ft_in F (t : Int)
          refine EV.iload_n (i := 1) dX7_feasts_26 rfl rfl ?_
          refine EV.icmp_ne (t := 34) dX7_feasts_27 (by decide) (by omega) (fun c27 => ?_) (fun c27 => ?_)
          · skip
            refine EV.iconst dX7_feasts_34 ?_
            refine EV.iadd dX7_feasts_35 ?_
            refine EV.istore_n (i := 2) (lv' := [some (.ref m), some (.int (zI (D))), some (.int (zI ((((cnt (fdB F D) t : Nat) : Int) + 0)))), some (.int (zI ((t : Int))))]) dX7_feasts_36 rfl (by decide) rfl ?_
            refine EV.iinc (i := 3) (lv' := [some (.ref m), some (.int (zI (D))), some (.int (zI ((((cnt (fdB F D) t : Nat) : Int) + 0)))), some (.int (zI ((t : Int) + 1)))]) dX7_feasts_37 rfl (by decide) rfl ?_
            refine EV.goto (t := 13) dX7_feasts_40 (by decide) ?_
            exact ih13 (t + 1) _ _ (by omega) (by omega) (by rw [Int.add_zero]; exact cnt_n (f := fdB F D) (decide_eq_false c27)) (rfl)
          · skip
            refine EV.iconst dX7_feasts_30 ?_
            refine EV.goto (t := 35) dX7_feasts_31 (by decide) ?_
            refine EV.iadd dX7_feasts_35 ?_
            refine EV.istore_n (i := 2) (lv' := [some (.ref m), some (.int (zI (D))), some (.int (zI ((((cnt (fdB F D) t : Nat) : Int) + 1)))), some (.int (zI ((t : Int))))]) dX7_feasts_36 rfl (by decide) rfl ?_
            refine EV.iinc (i := 3) (lv' := [some (.ref m), some (.int (zI (D))), some (.int (zI ((((cnt (fdB F D) t : Nat) : Int) + 1)))), some (.int (zI ((t : Int) + 1)))]) dX7_feasts_37 rfl (by decide) rfl ?_
            refine EV.goto (t := 13) dX7_feasts_40 (by decide) ?_
            exact ih13 (t + 1) _ _ (by omega) (by omega) (cnt_y (f := fdB F D) (decide_eq_true c27)) (rfl)
    exact L13 _ 0 _ _ (by omega) (Nat.lt_succ_self _) (by rfl) (by rfl)
  · skip
    have c4r := of_nrg c4
    refine EV.iconst dX7_feasts_7 ?_
    refine EV.iret rfl dX7_feasts_8 ?_
    exact rQ (by rw [feastsR, if_neg (by rw [c4]; decide)])
set_option maxHeartbeats 4000000 in
set_option maxRecDepth 20000 in
theorem c_X7_poor (d : Nat) (hM : ModAt G h m A F P T K la im ik) (hW : WF F) (hK : WFK K) (hP : WFP P) (hT : WFT T)  : CT G l mX7_poor (d + 4) 0 0 [.ref m] h (RQ h (poorR F)) := by
  refine CT.of (by decide) (Nat.le_of_ble_eq_true rfl) (List.forall_mem_cons.mpr ⟨rfl, fun _ h => absurd h List.not_mem_nil⟩) ?_
  refine EV.lvs (lv' := [some (.ref m), none, none, none]) rfl ?_
  have ⟨hcm, hc0, hc1, hc2, hc3, hc4, hc5, hc6, hc7, hc8, hc9⟩ := hM
  have hth := hW.1
  have hK6 := hK.1
  have hP6 := hP.1
  have hT6 := hT.1
  have hsf : ∀ q, q < 6 → F.1.testBit q = true → F.1.testBit q = true := fun _ _ z => z
  refine EV.iconst dX7_poor_0 ?_
  refine EV.istore_n (i := 1) (lv' := [some (.ref m), some (.int (zI (0))), none, none]) dX7_poor_1 rfl (by decide) rfl ?_
  refine EV.iconst dX7_poor_2 ?_
  refine EV.istore_n (i := 2) (lv' := [some (.ref m), some (.int (zI (0))), some (.int (zI (0))), none]) dX7_poor_3 rfl (by decide) rfl ?_
  have L4 : ∀ (n4 : Nat) (t : Nat) (x1 x2 : Int), (t ≤ 840) → 840 - t < n4 → x1 = ((orb (riB F t) 6 : Nat) : Int) → x2 = (t : Int) → EV G l mX7_poor (d + 4) (RQ h (poorR F)) 4 [some (.ref m), some (.int (zI (x1))), some (.int (zI (x2))), none] [] h 0 0 := by
    intro n4
    induction n4 with
    | zero => intro _ _ _ _ hm; exact absurd hm (Nat.not_lt_zero _)
    | succ n4 ih4 =>
      intro t x1 x2 ht hm4 e1 e2
      subst e1 e2
      refine EV.iload_n (i := 2) dX7_poor_4 rfl rfl ?_
      refine EV.sipush dX7_poor_5 (by decide) ?_
      refine EV.icmp_ge (t := 44) dX7_poor_8 (by decide) (by omega) (fun c8 => ?_) (fun c8 => ?_)
      · skip
        obtain rfl : t = 840 := by omega
        have hol := orb_lt (riB F 840) 6
        refine EV.aload_n (i := 0) dX7_poor_44 rfl rfl ?_
        refine EV.getf fl_X7_41 dX7_poor_45 hcm rfl ?_
        refine EV.iload_n (i := 1) dX7_poor_48 rfl rfl ?_
        refine EV.iconst dX7_poor_49 ?_
        refine EV.ixorW dX7_poor_50 ?_
        refine EV.iandW dX7_poor_51 ?_
        refine EV.top (y := zI (((orb (poB F 840) 6 : Nat) : Int))) (by rw [clr_g _ hth _ hol, ri_e F hth]) ?_
        refine EV.iret rfl dX7_poor_52 ?_
        exact rQ rfl
      · skip
        refine EV.aload_n (i := 0) dX7_poor_11 rfl rfl ?_
        refine EV.iload_n (i := 2) dX7_poor_12 rfl rfl ?_
        refine EV.callVr (M' := mX7_feastOn) (as := [.int (zI ((t : Int)))]) (rest := []) ml_X7_122 im_X7_feastOn se_X7_feastOn rfl co_X7_feastOn dX7_poor_13 hcm (c_X7_feastOn (d + 0) hM hW (t : Int) (by omega)) rfl rfl (Nat.le_of_ble_eq_true rfl) ?_
        have hft := ft_in F (t : Int)
        refine EV.istore_n (i := 3) (lv' := [some (.ref m), some (.int (zI (((orb (riB F t) 6 : Nat) : Int)))), some (.int (zI ((t : Int)))), some (.int (zI (ft F (t : Int))))]) dX7_poor_16 rfl (by decide) rfl ?_
        refine EV.iload_n (i := 1) dX7_poor_17 rfl rfl ?_
        refine EV.iload_n (i := 3) dX7_poor_18 rfl rfl ?_
        refine EV.iflt (t := 35) dX7_poor_19 (by decide) (by omega) (fun c19 => ?_) (fun c19 => ?_)
        · skip
          refine EV.iconst dX7_poor_35 ?_
          refine EV.iorW dX7_poor_36 ?_
          refine EV.top (y := zI (((orb (riB F (t + 1)) 6 : Nat) : Int))) (by rw [show zI (0 : Int) = zI ((0 : Nat) : Int) from rfl, zI_or, Nat.or_zero, ri_0 hW c19]) ?_
          refine EV.istore_n (i := 1) (lv' := [some (.ref m), some (.int (zI (((orb (riB F (t + 1)) 6 : Nat) : Int)))), some (.int (zI ((t : Int)))), some (.int (zI (ft F (t : Int))))]) dX7_poor_37 rfl (by decide) rfl ?_
          refine EV.iinc (i := 2) (lv' := [some (.ref m), some (.int (zI (((orb (riB F (t + 1)) 6 : Nat) : Int)))), some (.int (zI ((t : Int) + 1))), some (.int (zI (ft F (t : Int))))]) dX7_poor_38 rfl (by decide) rfl ?_
          refine EV.goto (t := 4) dX7_poor_41 (by decide) ?_
          refine EV.drop 3 (lv' := [some (.ref m), some (.int (zI (((orb (riB F (t + 1)) 6 : Nat) : Int)))), some (.int (zI (((t : Int) + 1)))), none]) rfl ?_
          exact ih4 (t + 1) _ _ (by omega) (by omega) (by rfl) (by rfl)
        · skip
          refine EV.aload_n (i := 0) dX7_poor_22 rfl rfl ?_
          refine EV.aload_n (i := 0) dX7_poor_23 rfl rfl ?_
          refine EV.getf fl_X7_41 dX7_poor_24 hcm rfl ?_
          refine EV.iload_n (i := 3) dX7_poor_27 rfl rfl ?_
          refine EV.iload_n (i := 2) dX7_poor_28 rfl rfl ?_
          refine EV.callVr (M' := mX7_having) (as := [.int (zI ((F.1 : Int))), .int (zI (ft F (t : Int))), .int (zI ((t : Int)))]) (rest := [.int (zI (((orb (riB F t) 6 : Nat) : Int)))]) ml_X7_84 im_X7_having se_X7_having rfl co_X7_having dX7_poor_29 hcm (c_X7_having (d + 1) hM hW F.1 (ft F (t : Int)) (t : Int) (by omega) hsf (by omega) (by omega)) rfl rfl (Nat.le_of_ble_eq_true rfl) ?_
          refine EV.top (y := zI ((hv F (ft F (t : Int)) (t : Int) : Int))) (rfl) ?_
          have hvl := hv_lt F (ft F (t : Int)) (t : Int)
          refine EV.goto (t := 36) dX7_poor_32 (by decide) ?_
          refine EV.iorW dX7_poor_36 ?_
          refine EV.top (y := zI (((orb (riB F (t + 1)) 6 : Nat) : Int))) (by rw [zI_or, ri_s]) ?_
          refine EV.istore_n (i := 1) (lv' := [some (.ref m), some (.int (zI (((orb (riB F (t + 1)) 6 : Nat) : Int)))), some (.int (zI ((t : Int)))), some (.int (zI (ft F (t : Int))))]) dX7_poor_37 rfl (by decide) rfl ?_
          refine EV.iinc (i := 2) (lv' := [some (.ref m), some (.int (zI (((orb (riB F (t + 1)) 6 : Nat) : Int)))), some (.int (zI ((t : Int) + 1))), some (.int (zI (ft F (t : Int))))]) dX7_poor_38 rfl (by decide) rfl ?_
          refine EV.goto (t := 4) dX7_poor_41 (by decide) ?_
          refine EV.drop 3 (lv' := [some (.ref m), some (.int (zI (((orb (riB F (t + 1)) 6 : Nat) : Int)))), some (.int (zI (((t : Int) + 1)))), none]) rfl ?_
          exact ih4 (t + 1) _ _ (by omega) (by omega) (by rfl) (by rfl)
  exact L4 _ 0 _ _ (by omega) (Nat.lt_succ_self _) (by rw [← ri_z]; rfl) (rfl)
set_option maxHeartbeats 4000000 in
set_option maxRecDepth 20000 in
theorem c_X7_oneOrder (d : Nat) (hM : ModAt G h m A F P T K la im ik) (hW : WF F) (hK : WFK K) (hP : WFP P) (hT : WFT T) (z w : Int) (hz : inR z) (hw : inR w) : CT G l mX7_oneOrder (d + 5) 0 0 [.ref m, .int (zI (z)), .int (zI (w))] h (RQ h (oneR F z w)) := by
  refine CT.of (by decide) (Nat.le_of_ble_eq_true rfl) (List.forall_mem_cons.mpr ⟨rfl, List.forall_mem_cons.mpr ⟨rfl, List.forall_mem_cons.mpr ⟨rfl, fun _ h => absurd h List.not_mem_nil⟩⟩⟩) ?_
  refine EV.lvs (lv' := [some (.ref m), some (.int (zI (z))), some (.int (zI (w))), none, none, none]) rfl ?_
  have ⟨hcm, hc0, hc1, hc2, hc3, hc4, hc5, hc6, hc7, hc8, hc9⟩ := hM
  have hth := hW.1
  have hK6 := hK.1
  have hP6 := hP.1
  have hT6 := hT.1
  have hsf : ∀ q, q < 6 → F.1.testBit q = true → F.1.testBit q = true := fun _ _ z => z
  refine EV.aload_n (i := 0) dX7_oneOrder_0 rfl rfl ?_
  refine EV.iload_n (i := 1) dX7_oneOrder_1 rfl rfl ?_
  refine EV.callVr (M' := mX7_isThere) (as := [.int (zI (z))]) (rest := []) ml_X7_67 im_X7_isThere se_X7_isThere rfl co_X7_isThere dX7_oneOrder_2 hcm (c_X7_isThere (d + 2) hM hW z (by omega)) rfl rfl (Nat.le_of_ble_eq_true rfl) ?_
  refine EV.ifneB (t := 10) dX7_oneOrder_5 (by decide) (fun c5 => ?_) (fun c5 => ?_)
  · skip
    obtain ⟨p, hp, rfl, hb⟩ := thI_p c5
    refine EV.iload_n (i := 2) dX7_oneOrder_10 rfl rfl ?_
    refine EV.iconst dX7_oneOrder_11 ?_
    refine EV.iconst dX7_oneOrder_12 ?_
    refine EV.callSr (M' := mX7_in) (as := [.int (zI (w)), .int (zI (0)), .int (zI (1))]) (rest := []) ml_X7_45 sm_X7_in co_X7_in dX7_oneOrder_13 (c_X7_in (d + 3) w 0 1 (by omega) (by omega) (by omega)) rfl rfl (Nat.le_of_ble_eq_true rfl) ?_
    refine EV.ifneB (t := 22) dX7_oneOrder_16 (by decide) (fun c16 => ?_) (fun c16 => ?_)
    · skip
      have c16r := of_rg c16
      refine EV.iconst dX7_oneOrder_22 ?_
      refine EV.istore_n (i := 3) (lv' := [some (.ref m), some (.int (zI ((p : Int)))), some (.int (zI (w))), some (.int (zI (0))), none, none]) dX7_oneOrder_23 rfl (by decide) rfl ?_
      refine EV.iconst dX7_oneOrder_24 ?_
      refine EV.istore (i := 4) (lv' := [some (.ref m), some (.int (zI ((p : Int)))), some (.int (zI (w))), some (.int (zI (0))), some (.int (zI (0))), none]) dX7_oneOrder_25 (by decide) rfl ?_
      refine EV.iconst dX7_oneOrder_27 ?_
      refine EV.istore (i := 5) (lv' := [some (.ref m), some (.int (zI ((p : Int)))), some (.int (zI (w))), some (.int (zI (0))), some (.int (zI (0))), some (.int (zI (0)))]) dX7_oneOrder_28 (by decide) rfl ?_
      have L30 : ∀ (n30 : Nat) (u : Nat) (x3 x5 : Int), (u ≤ 28) → 28 - u < n30 → x3 = ((cnt (fun t : Nat => decide (cd F F.1 (t : Int) = -6)) u : Nat) : Int) → x5 = (u : Int) → EV G l mX7_oneOrder (d + 5) (RQ h (oneR F (p : Int) w)) 30 [some (.ref m), some (.int (zI ((p : Int)))), some (.int (zI (w))), some (.int (zI (x3))), some (.int (zI (0))), some (.int (zI (x5)))] [] h 0 0 := by
        intro n30
        induction n30 with
        | zero => intro _ _ _ _ hm; exact absurd hm (Nat.not_lt_zero _)
        | succ n30 ih30 =>
          intro u x3 x5 hu hm30 e3 e5
          subst e3 e5
          have hcl := cnt_le (fun t : Nat => decide (cd F F.1 (t : Int) = -6)) u
          refine EV.iload (i := 5) dX7_oneOrder_30 rfl ?_
          refine EV.bipush dX7_oneOrder_32 (by decide) ?_
          refine EV.icmp_ge (t := 64) dX7_oneOrder_34 (by decide) (by omega) (fun c34 => ?_) (fun c34 => ?_)
          · skip
            obtain rfl : u = 28 := by omega
            refine EV.iconst dX7_oneOrder_64 ?_
            refine EV.istore (i := 5) (lv' := [some (.ref m), some (.int (zI ((p : Int)))), some (.int (zI (w))), some (.int (zI (((cnt (fun t : Nat => decide (cd F F.1 (t : Int) = -6)) (28 : Nat) : Nat) : Int)))), some (.int (zI (0))), some (.int (zI (0)))]) dX7_oneOrder_65 (by decide) rfl ?_
            have L67 : ∀ (n67 : Nat) (q : Nat) (x4 x5 : Int), (q ≤ 6) → 6 - q < n67 → x4 = csum F p q → x5 = (q : Int) → EV G l mX7_oneOrder (d + 5) (RQ h (oneR F (p : Int) w)) 67 [some (.ref m), some (.int (zI ((p : Int)))), some (.int (zI (w))), some (.int (zI (((cnt (fun t : Nat => decide (cd F F.1 (t : Int) = -6)) (28 : Nat) : Nat) : Int)))), some (.int (zI (x4))), some (.int (zI (x5)))] [] h 0 0 := by
              intro n67
              induction n67 with
              | zero => intro _ _ _ _ hm; exact absurd hm (Nat.not_lt_zero _)
              | succ n67 ih67 =>
                intro q x4 x5 hq hm67 e4 e5
                subst e4 e5
                have hcs2 := csum_in F p q
                refine EV.iload (i := 5) dX7_oneOrder_67 rfl ?_
                refine EV.bipush dX7_oneOrder_69 (by decide) ?_
                refine EV.icmp_ge (t := 108) dX7_oneOrder_71 (by decide) (by omega) (fun c71 => ?_) (fun c71 => ?_)
                · skip
                  obtain rfl : q = 6 := by omega
                  refine EV.iload_n (i := 2) dX7_oneOrder_108 rfl rfl ?_
                  refine EV.ifne (t := 116) dX7_oneOrder_109 (by decide) (by omega) (fun c109 => ?_) (fun c109 => ?_)
                  · skip
                    refine EV.iload (i := 4) dX7_oneOrder_116 rfl ?_
                    refine EV.iret rfl dX7_oneOrder_118 ?_
                    exact rQ (by rw [oneR, if_pos c5, if_pos c16, if_neg c109, Int.toNat_natCast])
                  · skip
                    refine EV.iload_n (i := 3) dX7_oneOrder_112 rfl rfl ?_
                    refine EV.goto (t := 118) dX7_oneOrder_113 (by decide) ?_
                    refine EV.iret rfl dX7_oneOrder_118 ?_
                    exact rQ (by rw [oneR, if_pos c5, if_pos c16, if_pos c109])
                · skip
                  refine EV.iload (i := 4) dX7_oneOrder_74 rfl ?_
                  refine EV.aload_n (i := 0) dX7_oneOrder_76 rfl rfl ?_
                  refine EV.getf fl_X7_41 dX7_oneOrder_77 hcm rfl ?_
                  refine EV.iload (i := 5) dX7_oneOrder_80 rfl ?_
                  refine EV.callSr (M' := mX7_has) (as := [.int (zI ((F.1 : Int))), .int (zI ((q : Int)))]) (rest := [.int (zI (csum F p q))]) ml_X7_49 sm_X7_has co_X7_has dX7_oneOrder_82 (c_X7_has (d + 3) F.1 q (by omega) (by omega)) rfl rfl (Nat.le_of_ble_eq_true rfl) ?_
                  refine EV.ifeqB (t := 98) dX7_oneOrder_85 (by decide) (fun c85 => ?_) (fun c85 => ?_)
                  · skip
                    refine EV.iconst dX7_oneOrder_98 ?_
                    refine EV.iadd dX7_oneOrder_99 ?_
                    refine EV.istore (i := 4) (lv' := [some (.ref m), some (.int (zI ((p : Int)))), some (.int (zI (w))), some (.int (zI (((cnt (fun t : Nat => decide (cd F F.1 (t : Int) = -6)) (28 : Nat) : Nat) : Int)))), some (.int (zI ((csum F p q + 0)))), some (.int (zI ((q : Int))))]) dX7_oneOrder_100 (by decide) rfl ?_
                    refine EV.iinc (i := 5) (lv' := [some (.ref m), some (.int (zI ((p : Int)))), some (.int (zI (w))), some (.int (zI (((cnt (fun t : Nat => decide (cd F F.1 (t : Int) = -6)) (28 : Nat) : Nat) : Int)))), some (.int (zI ((csum F p q + 0)))), some (.int (zI ((q : Int) + 1)))]) dX7_oneOrder_102 rfl (by decide) rfl ?_
                    refine EV.goto (t := 67) dX7_oneOrder_105 (by decide) ?_
                    exact ih67 (q + 1) _ _ (by omega) (by omega) (by rw [Int.add_zero]; exact cs_n c85) (rfl)
                  · skip
                    refine EV.aload_n (i := 0) dX7_oneOrder_88 rfl rfl ?_
                    refine EV.iload (i := 5) dX7_oneOrder_89 rfl ?_
                    refine EV.iload_n (i := 1) dX7_oneOrder_91 rfl rfl ?_
                    refine EV.callVr (M' := mX7_costOf) (as := [.int (zI ((q : Int))), .int (zI ((p : Int)))]) (rest := [.int (zI (csum F p q))]) ml_X7_116 im_X7_costOf se_X7_costOf rfl co_X7_costOf dX7_oneOrder_92 hcm (c_X7_costOf (d + 1) hM hW q p (by omega) hp c85 hb) rfl rfl (Nat.le_of_ble_eq_true rfl) ?_
                    have hci := cst_in F q p
                    refine EV.goto (t := 99) dX7_oneOrder_95 (by decide) ?_
                    refine EV.iadd dX7_oneOrder_99 ?_
                    refine EV.istore (i := 4) (lv' := [some (.ref m), some (.int (zI ((p : Int)))), some (.int (zI (w))), some (.int (zI (((cnt (fun t : Nat => decide (cd F F.1 (t : Int) = -6)) (28 : Nat) : Nat) : Int)))), some (.int (zI ((csum F p q + cst F q p)))), some (.int (zI ((q : Int))))]) dX7_oneOrder_100 (by decide) rfl ?_
                    refine EV.iinc (i := 5) (lv' := [some (.ref m), some (.int (zI ((p : Int)))), some (.int (zI (w))), some (.int (zI (((cnt (fun t : Nat => decide (cd F F.1 (t : Int) = -6)) (28 : Nat) : Nat) : Int)))), some (.int (zI ((csum F p q + cst F q p)))), some (.int (zI ((q : Int) + 1)))]) dX7_oneOrder_102 rfl (by decide) rfl ?_
                    refine EV.goto (t := 67) dX7_oneOrder_105 (by decide) ?_
                    exact ih67 (q + 1) _ _ (by omega) (by omega) (cs_y c85) (rfl)
            exact L67 _ 0 _ _ (by omega) (Nat.lt_succ_self _) (by rfl) (by rfl)
          · skip
            refine EV.iload_n (i := 3) dX7_oneOrder_37 rfl rfl ?_
            refine EV.aload_n (i := 0) dX7_oneOrder_38 rfl rfl ?_
            refine EV.aload_n (i := 0) dX7_oneOrder_39 rfl rfl ?_
            refine EV.getf fl_X7_41 dX7_oneOrder_40 hcm rfl ?_
            refine EV.iload (i := 5) dX7_oneOrder_43 rfl ?_
            refine EV.callVr (M' := mX7_oneDay) (as := [.int (zI ((F.1 : Int))), .int (zI ((u : Int)))]) (rest := [.int (zI (((cnt (fun t : Nat => decide (cd F F.1 (t : Int) = -6)) u : Nat) : Int)))]) ml_X7_91 im_X7_oneDay se_X7_oneDay rfl co_X7_oneDay dX7_oneOrder_45 hcm (c_X7_oneDay (d + 1) hM hW F.1 (u : Int) hth hsf (by omega)) rfl rfl (Nat.le_of_ble_eq_true rfl) ?_
            have hcb2 := cd_in F F.1 (u : Int)
            refine EV.ifge (t := 55) dX7_oneOrder_48 (by decide) (by omega) (fun c48 => ?_) (fun c48 => ?_)
            · skip
              refine EV.iconst dX7_oneOrder_55 ?_
              refine EV.iadd dX7_oneOrder_56 ?_
              refine EV.istore_n (i := 3) (lv' := [some (.ref m), some (.int (zI ((p : Int)))), some (.int (zI (w))), some (.int (zI ((((cnt (fun t : Nat => decide (cd F F.1 (t : Int) = -6)) u : Nat) : Int) + 0)))), some (.int (zI (0))), some (.int (zI ((u : Int))))]) dX7_oneOrder_57 rfl (by decide) rfl ?_
              refine EV.iinc (i := 5) (lv' := [some (.ref m), some (.int (zI ((p : Int)))), some (.int (zI (w))), some (.int (zI ((((cnt (fun t : Nat => decide (cd F F.1 (t : Int) = -6)) u : Nat) : Int) + 0)))), some (.int (zI (0))), some (.int (zI ((u : Int) + 1)))]) dX7_oneOrder_58 rfl (by decide) rfl ?_
              refine EV.goto (t := 30) dX7_oneOrder_61 (by decide) ?_
              exact ih30 (u + 1) _ _ (by omega) (by omega) (by rw [Int.add_zero]; exact cnt_n (f := fun t : Nat => decide (cd F F.1 (t : Int) = -6)) (decide_eq_false (by omega))) (rfl)
            · skip
              refine EV.iconst dX7_oneOrder_51 ?_
              refine EV.goto (t := 56) dX7_oneOrder_52 (by decide) ?_
              refine EV.iadd dX7_oneOrder_56 ?_
              refine EV.istore_n (i := 3) (lv' := [some (.ref m), some (.int (zI ((p : Int)))), some (.int (zI (w))), some (.int (zI ((((cnt (fun t : Nat => decide (cd F F.1 (t : Int) = -6)) u : Nat) : Int) + 1)))), some (.int (zI (0))), some (.int (zI ((u : Int))))]) dX7_oneOrder_57 rfl (by decide) rfl ?_
              refine EV.iinc (i := 5) (lv' := [some (.ref m), some (.int (zI ((p : Int)))), some (.int (zI (w))), some (.int (zI ((((cnt (fun t : Nat => decide (cd F F.1 (t : Int) = -6)) u : Nat) : Int) + 1)))), some (.int (zI (0))), some (.int (zI ((u : Int) + 1)))]) dX7_oneOrder_58 rfl (by decide) rfl ?_
              refine EV.goto (t := 30) dX7_oneOrder_61 (by decide) ?_
              exact ih30 (u + 1) _ _ (by omega) (by omega) (cnt_y (f := fun t : Nat => decide (cd F F.1 (t : Int) = -6)) (decide_eq_true (cd_neg (by omega)))) (rfl)
      exact L30 _ 0 _ _ (by omega) (Nat.lt_succ_self _) (by rfl) (by rfl)
    · skip
      have c16r := of_nrg c16
      refine EV.bipush dX7_oneOrder_19 (by decide) ?_
      refine EV.iret rfl dX7_oneOrder_21 ?_
      exact rQ (by rw [oneR, if_pos c5, if_neg (by rw [c16]; decide)])
  · skip
    refine EV.iconst dX7_oneOrder_8 ?_
    refine EV.iret rfl dX7_oneOrder_9 ?_
    exact rQ (by rw [oneR, if_neg (by rw [c5]; decide)])
set_option maxHeartbeats 4000000 in
set_option maxRecDepth 20000 in
theorem c_X7_whose (d : Nat) (hM : ModAt G h m A F P T K la im ik) (hW : WF F) (hK : WFK K) (hP : WFP P) (hT : WFT T) (i : Int) (hi : inR i) : CT G l mX7_whose (d + 3) 0 0 [.ref m, .int (zI (i))] h (RQ h (whoseR F T i)) := by
  refine CT.of (by decide) (Nat.le_of_ble_eq_true rfl) (List.forall_mem_cons.mpr ⟨rfl, List.forall_mem_cons.mpr ⟨rfl, fun _ h => absurd h List.not_mem_nil⟩⟩) ?_
  refine EV.lvs (lv' := [some (.ref m), some (.int (zI (i))), none, none, none]) rfl ?_
  have ⟨hcm, hc0, hc1, hc2, hc3, hc4, hc5, hc6, hc7, hc8, hc9⟩ := hM
  have hth := hW.1
  have hK6 := hK.1
  have hP6 := hP.1
  have hT6 := hT.1
  have hsf : ∀ q, q < 6 → F.1.testBit q = true → F.1.testBit q = true := fun _ _ z => z
  refine EV.iconst dX7_whose_0 ?_
  refine EV.istore_n (i := 2) (lv' := [some (.ref m), some (.int (zI (i))), some (.int (zI (0))), none, none]) dX7_whose_1 rfl (by decide) rfl ?_
  refine EV.iconst dX7_whose_2 ?_
  refine EV.istore_n (i := 3) (lv' := [some (.ref m), some (.int (zI (i))), some (.int (zI (0))), some (.int (zI (0))), none]) dX7_whose_3 rfl (by decide) rfl ?_
  have L4 : ∀ (n4 : Nat) (p : Nat) (n : Nat) (x2 x3 : Int), (p ≤ 6) → (n ≤ 8 * p) → (whoseR F T i = ith (wlF F T) i (wls p 0) n) → 6 - p < n4 → x2 = (n : Int) → x3 = (p : Int) → EV G l mX7_whose (d + 3) (RQ h (whoseR F T i)) 4 [some (.ref m), some (.int (zI (i))), some (.int (zI (x2))), some (.int (zI (x3))), none] [] h 0 0 := by
    intro n4
    induction n4 with
    | zero => intro _ _ _ _ _ _ _ hm; exact absurd hm (Nat.not_lt_zero _)
    | succ n4 ih4 =>
      intro p n x2 x3 hp hn hx hm4 e2 e3
      subst e2 e3
      refine EV.iload_n (i := 3) dX7_whose_4 rfl rfl ?_
      refine EV.bipush dX7_whose_5 (by decide) ?_
      refine EV.icmp_ge (t := 58) dX7_whose_7 (by decide) (by omega) (fun c7 => ?_) (fun c7 => ?_)
      · skip
        obtain rfl : p = 6 := by omega
        refine EV.iload_n (i := 1) dX7_whose_58 rfl rfl ?_
        refine EV.iconst dX7_whose_59 ?_
        refine EV.icmp_ne (t := 67) dX7_whose_60 (by decide) (by omega) (fun c60 => ?_) (fun c60 => ?_)
        · skip
          refine EV.bipush dX7_whose_67 (by decide) ?_
          refine EV.iret rfl dX7_whose_69 ?_
          exact rQ (by rw [ith_we hx, if_neg (by omega)])
        · skip
          refine EV.iload_n (i := 2) dX7_whose_63 rfl rfl ?_
          refine EV.goto (t := 69) dX7_whose_64 (by decide) ?_
          refine EV.iret rfl dX7_whose_69 ?_
          exact rQ (by rw [ith_we hx, if_pos (by omega)])
      · skip
        refine EV.iconst dX7_whose_10 ?_
        refine EV.istore (i := 4) (lv' := [some (.ref m), some (.int (zI (i))), some (.int (zI ((n : Int)))), some (.int (zI ((p : Int)))), some (.int (zI (0)))]) dX7_whose_11 (by decide) rfl ?_
        have L13 : ∀ (n13 : Nat) (q : Nat) (n1 : Nat) (x2 x4 : Int), (q ≤ 8) → (n1 ≤ 8 * p + q) → (whoseR F T i = ith (wlF F T) i (wls p q) n1) → 8 - q < n13 → x2 = (n1 : Int) → x4 = (q : Int) → EV G l mX7_whose (d + 3) (RQ h (whoseR F T i)) 13 [some (.ref m), some (.int (zI (i))), some (.int (zI (x2))), some (.int (zI ((p : Int)))), some (.int (zI (x4)))] [] h 0 0 := by
          intro n13
          induction n13 with
          | zero => intro _ _ _ _ _ _ _ hm; exact absurd hm (Nat.not_lt_zero _)
          | succ n13 ih13 =>
            intro q n1 x2 x4 hq hn1 hy hm13 e2 e4
            subst e2 e4
            refine EV.iload (i := 4) dX7_whose_13 rfl ?_
            refine EV.bipush dX7_whose_15 (by decide) ?_
            refine EV.icmp_ge (t := 52) dX7_whose_17 (by decide) (by omega) (fun c17 => ?_) (fun c17 => ?_)
            · skip
              obtain rfl : q = 8 := by omega
              refine EV.iinc (i := 3) (lv' := [some (.ref m), some (.int (zI (i))), some (.int (zI ((n1 : Int)))), some (.int (zI ((p : Int) + 1))), some (.int (zI (((8 : Nat) : Int))))]) dX7_whose_52 rfl (by decide) rfl ?_
              refine EV.goto (t := 4) dX7_whose_55 (by decide) ?_
              refine EV.drop 4 (lv' := [some (.ref m), some (.int (zI (i))), some (.int (zI ((n1 : Int)))), some (.int (zI (((p : Int) + 1)))), none]) rfl ?_
              exact ih4 (p + 1) n1 _ _ (by omega) (by omega) (ith_wr hy (by omega)) (by omega) (by rfl) (by rfl)
            · skip
              refine EV.aload_n (i := 0) dX7_whose_20 rfl rfl ?_
              refine EV.iload_n (i := 3) dX7_whose_21 rfl rfl ?_
              refine EV.iload (i := 4) dX7_whose_22 rfl ?_
              refine EV.callVr (M' := mX7_isWell) (as := [.int (zI ((p : Int))), .int (zI ((q : Int)))]) (rest := []) ml_X7_131 im_X7_isWell se_X7_isWell rfl co_X7_isWell dX7_whose_24 hcm (c_X7_isWell (d + 0) hM hW p (q : Int) (by omega) hT (by omega)) rfl rfl (Nat.le_of_ble_eq_true rfl) ?_
              refine EV.ifeqB (t := 46) dX7_whose_27 (by decide) (fun c27 => ?_) (fun c27 => ?_)
              · skip
                refine EV.iinc (i := 4) (lv' := [some (.ref m), some (.int (zI (i))), some (.int (zI ((n1 : Int)))), some (.int (zI ((p : Int)))), some (.int (zI ((q : Int) + 1)))]) dX7_whose_46 rfl (by decide) rfl ?_
                refine EV.goto (t := 13) dX7_whose_49 (by decide) ?_
                exact ih13 (q + 1) n1 _ _ (by omega) (by omega) (ith_wn hy (by omega) (by omega) c27) (by omega) (by rfl) (by rfl)
              · skip
                refine EV.iload_n (i := 2) dX7_whose_30 rfl rfl ?_
                refine EV.iload_n (i := 1) dX7_whose_31 rfl rfl ?_
                refine EV.icmp_ne (t := 43) dX7_whose_32 (by decide) (by omega) (fun c32 => ?_) (fun c32 => ?_)
                · skip
                  refine EV.iinc (i := 2) (lv' := [some (.ref m), some (.int (zI (i))), some (.int (zI ((n1 : Int) + 1))), some (.int (zI ((p : Int)))), some (.int (zI ((q : Int))))]) dX7_whose_43 rfl (by decide) rfl ?_
                  refine EV.iinc (i := 4) (lv' := [some (.ref m), some (.int (zI (i))), some (.int (zI (((n1 : Int) + 1)))), some (.int (zI ((p : Int)))), some (.int (zI ((q : Int) + 1)))]) dX7_whose_46 rfl (by decide) rfl ?_
                  refine EV.goto (t := 13) dX7_whose_49 (by decide) ?_
                  exact ih13 (q + 1) (n1 + 1) _ _ (by omega) (by omega) (ith_wu hy (by omega) (by omega) c27 c32) (by omega) (by rfl) (by rfl)
                · skip
                  refine EV.bipush dX7_whose_35 (by decide) ?_
                  refine EV.iload_n (i := 3) dX7_whose_37 rfl rfl ?_
                  refine EV.imul dX7_whose_38 ?_
                  refine EV.iload (i := 4) dX7_whose_39 rfl ?_
                  refine EV.iadd dX7_whose_41 ?_
                  refine EV.iret rfl dX7_whose_42 ?_
                  exact rQ (ith_wy hy (by omega) (by omega) c27 c32).symm
        exact L13 _ 0 n _ _ (by omega) (by omega) (hx) (Nat.lt_succ_self _) (by rfl) (by rfl)
  exact L4 _ 0 0 _ _ (by omega) (by omega) (rfl) (Nat.lt_succ_self _) (by rfl) (by rfl)
set_option maxHeartbeats 4000000 in
set_option maxRecDepth 20000 in
theorem c_X7_sure (d : Nat) (hM : ModAt G h m A F P T K la im ik) (hW : WF F) (hK : WFK K) (hP : WFP P) (hT : WFT T) (t : Int) (ht : inR t) : CT G l mX7_sure (d + 3) 0 0 [.ref m, .int (zI (t))] h (RQ h (sureR F T t)) := by
  refine CT.of (by decide) (Nat.le_of_ble_eq_true rfl) (List.forall_mem_cons.mpr ⟨rfl, List.forall_mem_cons.mpr ⟨rfl, fun _ h => absurd h List.not_mem_nil⟩⟩) ?_
  refine EV.lvs (lv' := [some (.ref m), some (.int (zI (t))), none, none, none, none]) rfl ?_
  have ⟨hcm, hc0, hc1, hc2, hc3, hc4, hc5, hc6, hc7, hc8, hc9⟩ := hM
  have hth := hW.1
  have hK6 := hK.1
  have hP6 := hP.1
  have hT6 := hT.1
  have hsf : ∀ q, q < 6 → F.1.testBit q = true → F.1.testBit q = true := fun _ _ z => z
  refine EV.iload_n (i := 1) dX7_sure_0 rfl rfl ?_
  refine EV.callSr (M' := mX7_isDate) (as := [.int (zI (t))]) (rest := []) ml_X7_77 sm_X7_isDate co_X7_isDate dX7_sure_1 (c_X7_isDate (d + 0) t (by omega)) rfl rfl (Nat.le_of_ble_eq_true rfl) ?_
  refine EV.ifneB (t := 10) dX7_sure_4 (by decide) (fun c4 => ?_) (fun c4 => ?_)
  · skip
    have c4r := of_rg c4
    refine EV.iconst dX7_sure_10 ?_
    refine EV.istore_n (i := 2) (lv' := [some (.ref m), some (.int (zI (t))), some (.int (zI (0))), none, none, none]) dX7_sure_11 rfl (by decide) rfl ?_
    refine EV.iconst dX7_sure_12 ?_
    refine EV.istore_n (i := 3) (lv' := [some (.ref m), some (.int (zI (t))), some (.int (zI (0))), some (.int (zI (0))), none, none]) dX7_sure_13 rfl (by decide) rfl ?_
    refine EV.iconst dX7_sure_14 ?_
    refine EV.istore (i := 4) (lv' := [some (.ref m), some (.int (zI (t))), some (.int (zI (0))), some (.int (zI (0))), some (.int (zI (0))), none]) dX7_sure_15 (by decide) rfl ?_
    have L17 : ∀ (n17 : Nat) (p : Nat) (x2 x3 x4 : Int), (p ≤ 6) → 6 - p < n17 → x2 = ((cnt (suS F T t) (8 * p) : Nat) : Int) → x3 = ((cnt (suO F T t) (8 * p) : Nat) : Int) → x4 = (p : Int) → EV G l mX7_sure (d + 3) (RQ h (sureR F T t)) 17 [some (.ref m), some (.int (zI (t))), some (.int (zI (x2))), some (.int (zI (x3))), some (.int (zI (x4))), none] [] h 0 0 := by
      intro n17
      induction n17 with
      | zero => intro _ _ _ _ _ hm; exact absurd hm (Nat.not_lt_zero _)
      | succ n17 ih17 =>
        intro p x2 x3 x4 hp hm17 e2 e3 e4
        subst e2 e3 e4
        refine EV.iload (i := 4) dX7_sure_17 rfl ?_
        refine EV.bipush dX7_sure_19 (by decide) ?_
        refine EV.icmp_ge (t := 97) dX7_sure_21 (by decide) (by omega) (fun c21 => ?_) (fun c21 => ?_)
        · skip
          obtain rfl : p = 6 := by omega
          have q1 : cnt (suO F T t) (8 * 6) = cnt (suO F T t) 48 := rfl
          have q2 : cnt (suS F T t) (8 * 6) = cnt (suS F T t) 48 := rfl
          have q3 := su_sum F T t 48
          have hx1 := cnt_le (suO F T t) 48
          have hx2 := cnt_le (suS F T t) 48
          refine EV.iload_n (i := 2) dX7_sure_97 rfl rfl ?_
          refine EV.iload_n (i := 3) dX7_sure_98 rfl rfl ?_
          refine EV.iadd dX7_sure_99 ?_
          refine EV.ifne (t := 108) dX7_sure_100 (by decide) (by omega) (fun c100 => ?_) (fun c100 => ?_)
          · skip
            refine EV.iload_n (i := 3) dX7_sure_108 rfl rfl ?_
            refine EV.ifne (t := 116) dX7_sure_109 (by decide) (by omega) (fun c109 => ?_) (fun c109 => ?_)
            · skip
              refine EV.iload_n (i := 2) dX7_sure_116 rfl rfl ?_
              refine EV.ifne (t := 124) dX7_sure_117 (by decide) (by omega) (fun c117 => ?_) (fun c117 => ?_)
              · skip
                refine EV.iconst dX7_sure_124 ?_
                refine EV.iret rfl dX7_sure_125 ?_
                exact rQ (by rw [sureR, if_pos c4, if_neg (by omega), if_neg (by omega), if_neg (by omega)])
              · skip
                refine EV.iconst dX7_sure_120 ?_
                refine EV.goto (t := 125) dX7_sure_121 (by decide) ?_
                refine EV.iret rfl dX7_sure_125 ?_
                exact rQ (by rw [sureR, if_pos c4, if_neg (by omega), if_pos (by omega)])
            · skip
              refine EV.iconst dX7_sure_112 ?_
              refine EV.goto (t := 125) dX7_sure_113 (by decide) ?_
              refine EV.iret rfl dX7_sure_125 ?_
              exact rQ (by rw [sureR, if_pos c4, if_neg (by omega), if_neg (by omega), if_pos (by omega)])
          · skip
            refine EV.bipush dX7_sure_103 (by decide) ?_
            refine EV.goto (t := 125) dX7_sure_105 (by decide) ?_
            refine EV.iret rfl dX7_sure_125 ?_
            exact rQ (by rw [sureR, if_pos c4, if_pos (by omega)])
        · skip
          refine EV.iconst dX7_sure_24 ?_
          refine EV.istore (i := 5) (lv' := [some (.ref m), some (.int (zI (t))), some (.int (zI (((cnt (suS F T t) (8 * p) : Nat) : Int)))), some (.int (zI (((cnt (suO F T t) (8 * p) : Nat) : Int)))), some (.int (zI ((p : Int)))), some (.int (zI (0)))]) dX7_sure_25 (by decide) rfl ?_
          have L27 : ∀ (n27 : Nat) (q : Nat) (x2 x3 x5 : Int), (q ≤ 8) → 8 - q < n27 → x2 = ((cnt (suS F T t) (8 * p + q) : Nat) : Int) → x3 = ((cnt (suO F T t) (8 * p + q) : Nat) : Int) → x5 = (q : Int) → EV G l mX7_sure (d + 3) (RQ h (sureR F T t)) 27 [some (.ref m), some (.int (zI (t))), some (.int (zI (x2))), some (.int (zI (x3))), some (.int (zI ((p : Int)))), some (.int (zI (x5)))] [] h 0 0 := by
            intro n27
            induction n27 with
            | zero => intro _ _ _ _ _ hm; exact absurd hm (Nat.not_lt_zero _)
            | succ n27 ih27 =>
              intro q x2 x3 x5 hq hm27 e2 e3 e5
              subst e2 e3 e5
              have hc1 := cnt_le (suO F T t) (8 * p + q)
              have hc2 := cnt_le (suS F T t) (8 * p + q)
              refine EV.iload (i := 5) dX7_sure_27 rfl ?_
              refine EV.bipush dX7_sure_29 (by decide) ?_
              refine EV.icmp_ge (t := 91) dX7_sure_31 (by decide) (by omega) (fun c31 => ?_) (fun c31 => ?_)
              · skip
                obtain rfl : q = 8 := by omega
                refine EV.iinc (i := 4) (lv' := [some (.ref m), some (.int (zI (t))), some (.int (zI (((cnt (suS F T t) (8 * p + (8 : Nat)) : Nat) : Int)))), some (.int (zI (((cnt (suO F T t) (8 * p + (8 : Nat)) : Nat) : Int)))), some (.int (zI ((p : Int) + 1))), some (.int (zI (((8 : Nat) : Int))))]) dX7_sure_91 rfl (by decide) rfl ?_
                refine EV.goto (t := 17) dX7_sure_94 (by decide) ?_
                refine EV.drop 5 (lv' := [some (.ref m), some (.int (zI (t))), some (.int (zI (((cnt (suS F T t) (8 * p + (8 : Nat)) : Nat) : Int)))), some (.int (zI (((cnt (suO F T t) (8 * p + (8 : Nat)) : Nat) : Int)))), some (.int (zI (((p : Int) + 1)))), none]) rfl ?_
                exact ih17 (p + 1) _ _ _ (by omega) (by omega) (rfl) (rfl) (rfl)
              · skip
                refine EV.aload_n (i := 0) dX7_sure_34 rfl rfl ?_
                refine EV.iload (i := 4) dX7_sure_35 rfl ?_
                refine EV.iload (i := 5) dX7_sure_37 rfl ?_
                refine EV.callVr (M' := mX7_isWell) (as := [.int (zI ((p : Int))), .int (zI ((q : Int)))]) (rest := []) ml_X7_131 im_X7_isWell se_X7_isWell rfl co_X7_isWell dX7_sure_39 hcm (c_X7_isWell (d + 0) hM hW p (q : Int) (by omega) hT (by omega)) rfl rfl (Nat.le_of_ble_eq_true rfl) ?_
                refine EV.ifeqB (t := 85) dX7_sure_42 (by decide) (fun c42 => ?_) (fun c42 => ?_)
                · skip
                  refine EV.iinc (i := 5) (lv' := [some (.ref m), some (.int (zI (t))), some (.int (zI (((cnt (suS F T t) (8 * p + q) : Nat) : Int)))), some (.int (zI (((cnt (suO F T t) (8 * p + q) : Nat) : Int)))), some (.int (zI ((p : Int)))), some (.int (zI ((q : Int) + 1)))]) dX7_sure_85 rfl (by decide) rfl ?_
                  refine EV.goto (t := 27) dX7_sure_88 (by decide) ?_
                  exact ih27 (q + 1) _ _ _ (by omega) (by omega) (cnt_n (f := suS F T t) (by rw [suS_e (by omega), show wlF F T p q = false from c42]; rfl)) (cnt_n (f := suO F T t) (by rw [suO_e (by omega), show wlF F T p q = false from c42]; rfl)) (rfl)
                · skip
                  have hb := wlF_b (show wlF F T p q = true from c42)
                  refine EV.iload_n (i := 2) dX7_sure_45 rfl rfl ?_
                  refine EV.aload_n (i := 0) dX7_sure_46 rfl rfl ?_
                  refine EV.iload (i := 4) dX7_sure_47 rfl ?_
                  refine EV.iload_n (i := 1) dX7_sure_49 rfl rfl ?_
                  refine EV.callVr (M' := mX7_dayOf) (as := [.int (zI ((p : Int))), .int (zI (t))]) (rest := [.int (zI (((cnt (suS F T t) (8 * p + q) : Nat) : Int)))]) ml_X7_80 im_X7_dayOf se_X7_dayOf rfl co_X7_dayOf dX7_sure_50 hcm (c_X7_dayOf (d + 1) hM hW p t (by omega) hb (by omega)) rfl rfl (Nat.le_of_ble_eq_true rfl) ?_
                  have hr1 := hW.dy (p := p) (by omega) hb t
                  refine EV.iload (i := 5) dX7_sure_53 rfl ?_
                  refine EV.icmp_ne (t := 62) dX7_sure_55 (by decide) (by omega) (fun c55 => ?_) (fun c55 => ?_)
                  · skip
                    refine EV.iconst dX7_sure_62 ?_
                    refine EV.iadd dX7_sure_63 ?_
                    refine EV.istore_n (i := 2) (lv' := [some (.ref m), some (.int (zI (t))), some (.int (zI ((((cnt (suS F T t) (8 * p + q) : Nat) : Int) + 0)))), some (.int (zI (((cnt (suO F T t) (8 * p + q) : Nat) : Int)))), some (.int (zI ((p : Int)))), some (.int (zI ((q : Int))))]) dX7_sure_64 rfl (by decide) rfl ?_
                    refine EV.iload_n (i := 3) dX7_sure_65 rfl rfl ?_
                    refine EV.aload_n (i := 0) dX7_sure_66 rfl rfl ?_
                    refine EV.iload (i := 4) dX7_sure_67 rfl ?_
                    refine EV.iload_n (i := 1) dX7_sure_69 rfl rfl ?_
                    refine EV.callVr (M' := mX7_dayOf) (as := [.int (zI ((p : Int))), .int (zI (t))]) (rest := [.int (zI (((cnt (suO F T t) (8 * p + q) : Nat) : Int)))]) ml_X7_80 im_X7_dayOf se_X7_dayOf rfl co_X7_dayOf dX7_sure_70 hcm (c_X7_dayOf (d + 1) hM hW p t (by omega) hb (by omega)) rfl rfl (Nat.le_of_ble_eq_true rfl) ?_
                    have hr1 := hW.dy (p := p) (by omega) hb t
                    refine EV.iload (i := 5) dX7_sure_73 rfl ?_
                    refine EV.icmp_ne (t := 82) dX7_sure_75 (by decide) (by omega) (fun c75 => ?_) (fun c75 => ?_)
                    · skip
                      refine EV.iconst dX7_sure_82 ?_
                      refine EV.iadd dX7_sure_83 ?_
                      refine EV.istore_n (i := 3) (lv' := [some (.ref m), some (.int (zI (t))), some (.int (zI ((((cnt (suS F T t) (8 * p + q) : Nat) : Int) + 0)))), some (.int (zI ((((cnt (suO F T t) (8 * p + q) : Nat) : Int) + 1)))), some (.int (zI ((p : Int)))), some (.int (zI ((q : Int))))]) dX7_sure_84 rfl (by decide) rfl ?_
                      refine EV.iinc (i := 5) (lv' := [some (.ref m), some (.int (zI (t))), some (.int (zI ((((cnt (suS F T t) (8 * p + q) : Nat) : Int) + 0)))), some (.int (zI ((((cnt (suO F T t) (8 * p + q) : Nat) : Int) + 1)))), some (.int (zI ((p : Int)))), some (.int (zI ((q : Int) + 1)))]) dX7_sure_85 rfl (by decide) rfl ?_
                      refine EV.goto (t := 27) dX7_sure_88 (by decide) ?_
                      exact ih27 (q + 1) _ _ _ (by omega) (by omega) (by rw [Int.add_zero]; exact cnt_n (f := suS F T t) (by rw [suS_e (by omega), decide_eq_false c55, Bool.and_false])) (cnt_y (f := suO F T t) (by rw [suO_e (by omega), show wlF F T p q = true from c42, decide_eq_false c55]; rfl)) (rfl)
                    · skip
                      omega
                  · skip
                    refine EV.iconst dX7_sure_58 ?_
                    refine EV.goto (t := 63) dX7_sure_59 (by decide) ?_
                    refine EV.iadd dX7_sure_63 ?_
                    refine EV.istore_n (i := 2) (lv' := [some (.ref m), some (.int (zI (t))), some (.int (zI ((((cnt (suS F T t) (8 * p + q) : Nat) : Int) + 1)))), some (.int (zI (((cnt (suO F T t) (8 * p + q) : Nat) : Int)))), some (.int (zI ((p : Int)))), some (.int (zI ((q : Int))))]) dX7_sure_64 rfl (by decide) rfl ?_
                    refine EV.iload_n (i := 3) dX7_sure_65 rfl rfl ?_
                    refine EV.aload_n (i := 0) dX7_sure_66 rfl rfl ?_
                    refine EV.iload (i := 4) dX7_sure_67 rfl ?_
                    refine EV.iload_n (i := 1) dX7_sure_69 rfl rfl ?_
                    refine EV.callVr (M' := mX7_dayOf) (as := [.int (zI ((p : Int))), .int (zI (t))]) (rest := [.int (zI (((cnt (suO F T t) (8 * p + q) : Nat) : Int)))]) ml_X7_80 im_X7_dayOf se_X7_dayOf rfl co_X7_dayOf dX7_sure_70 hcm (c_X7_dayOf (d + 1) hM hW p t (by omega) hb (by omega)) rfl rfl (Nat.le_of_ble_eq_true rfl) ?_
                    have hr1 := hW.dy (p := p) (by omega) hb t
                    refine EV.iload (i := 5) dX7_sure_73 rfl ?_
                    refine EV.icmp_ne (t := 82) dX7_sure_75 (by decide) (by omega) (fun c75 => ?_) (fun c75 => ?_)
                    · skip
                      omega
                    · skip
                      refine EV.iconst dX7_sure_78 ?_
                      refine EV.goto (t := 83) dX7_sure_79 (by decide) ?_
                      refine EV.iadd dX7_sure_83 ?_
                      refine EV.istore_n (i := 3) (lv' := [some (.ref m), some (.int (zI (t))), some (.int (zI ((((cnt (suS F T t) (8 * p + q) : Nat) : Int) + 1)))), some (.int (zI ((((cnt (suO F T t) (8 * p + q) : Nat) : Int) + 0)))), some (.int (zI ((p : Int)))), some (.int (zI ((q : Int))))]) dX7_sure_84 rfl (by decide) rfl ?_
                      refine EV.iinc (i := 5) (lv' := [some (.ref m), some (.int (zI (t))), some (.int (zI ((((cnt (suS F T t) (8 * p + q) : Nat) : Int) + 1)))), some (.int (zI ((((cnt (suO F T t) (8 * p + q) : Nat) : Int) + 0)))), some (.int (zI ((p : Int)))), some (.int (zI ((q : Int) + 1)))]) dX7_sure_85 rfl (by decide) rfl ?_
                      refine EV.goto (t := 27) dX7_sure_88 (by decide) ?_
                      exact ih27 (q + 1) _ _ _ (by omega) (by omega) (cnt_y (f := suS F T t) (by rw [suS_e (by omega), show wlF F T p q = true from c42, decide_eq_true c55]; rfl)) (by rw [Int.add_zero]; exact cnt_n (f := suO F T t) (by rw [suO_e (by omega), decide_eq_true c55]; simp)) (rfl)
          exact L27 _ 0 _ _ _ (by omega) (Nat.lt_succ_self _) (rfl) (rfl) (rfl)
    exact L17 _ 0 _ _ _ (by omega) (Nat.lt_succ_self _) (rfl) (rfl) (rfl)
  · skip
    have c4r := of_nrg c4
    refine EV.bipush dX7_sure_7 (by decide) ?_
    refine EV.iret rfl dX7_sure_9 ?_
    exact rQ (by rw [sureR, if_neg (by rw [c4]; decide)])
set_option maxHeartbeats 4000000 in
set_option maxRecDepth 20000 in
theorem c_X7_newly (d : Nat) {h : Hp} (D t w : Int) (hD : 0 ≤ D ∧ D ≤ 7) (ht : 0 ≤ t ∧ t ≤ 9999) (hw : 0 ≤ w ∧ w ≤ 1) : CT G l mX7_newly (d + 2) 0 0 [.int (zI (D)), .int (zI (t)), .int (zI (w))] h (fun o h' => o = some (.long ((zI (chV D w)).toInt64)) ∧ h' = h) := by
  refine CT.of (by decide) (Nat.le_of_ble_eq_true rfl) (List.forall_mem_cons.mpr ⟨rfl, List.forall_mem_cons.mpr ⟨rfl, List.forall_mem_cons.mpr ⟨rfl, fun _ h => absurd h List.not_mem_nil⟩⟩⟩) ?_
  refine EV.lvs (lv' := [some (.int (zI (D))), some (.int (zI (t))), some (.int (zI (w))), none, none, none, none]) rfl ?_
  refine EV.iconst dX7_newly_0 ?_
  refine EV.istore_n (i := 3) (lv' := [some (.int (zI (D))), some (.int (zI (t))), some (.int (zI (w))), some (.int (zI (0))), none, none, none]) dX7_newly_1 rfl (by decide) rfl ?_
  refine EV.iconst dX7_newly_2 ?_
  refine EV.istore (i := 4) (lv' := [some (.int (zI (D))), some (.int (zI (t))), some (.int (zI (w))), some (.int (zI (0))), some (.int (zI (0))), none, none]) dX7_newly_3 (by decide) rfl ?_
  have L5 : ∀ (n5 : Nat) (v : Nat) (x3 x4 : Int), (v ≤ 14) → 14 - v < n5 → x3 = ((cnt (tnB D t) (7 * v) : Nat) : Int) → x4 = (v : Int) → EV G l mX7_newly (d + 2) (fun o h' => o = some (.long ((zI (chV D w)).toInt64)) ∧ h' = h) 5 [some (.int (zI (D))), some (.int (zI (t))), some (.int (zI (w))), some (.int (zI (x3))), some (.int (zI (x4))), none, none] [] h 0 0 := by
    intro n5
    induction n5 with
    | zero => intro _ _ _ _ hm; exact absurd hm (Nat.not_lt_zero _)
    | succ n5 ih5 =>
      intro v x3 x4 hv hm5 e3 e4
      subst e3 e4
      refine EV.iload (i := 4) dX7_newly_5 rfl ?_
      refine EV.bipush dX7_newly_7 (by decide) ?_
      refine EV.icmp_ge (t := 55) dX7_newly_9 (by decide) (by omega) (fun c9 => ?_) (fun c9 => ?_)
      · skip
        obtain rfl : v = 14 := by omega
        refine EV.lvs (lv' := [some (.int (zI (D))), some (.int (zI (t))), some (.int (zI (w))), some (.int (zI ((hitN D : Int)))), some (.int (zI (((14 : Nat) : Int)))), none, none]) (by rw [show cnt (tnB D t) (7 * 14) = hitN D from tnh hD]) ?_
        have hh : hitN D ≤ 98 := by unfold hitN; split <;> decide
        refine EV.iload_n (i := 3) dX7_newly_55 rfl rfl ?_
        refine EV.istore (i := 4) (lv' := [some (.int (zI (D))), some (.int (zI (t))), some (.int (zI (w))), some (.int (zI ((hitN D : Int)))), some (.int (zI ((hitN D : Int)))), none, none]) dX7_newly_56 (by decide) rfl ?_
        refine EV.bipush dX7_newly_58 (by decide) ?_
        refine EV.istore (i := 5) (lv' := [some (.int (zI (D))), some (.int (zI (t))), some (.int (zI (w))), some (.int (zI ((hitN D : Int)))), some (.int (zI ((hitN D : Int)))), some (.int (zI (98))), none]) dX7_newly_60 (by decide) rfl ?_
        have L62 : ∀ (n62 : Nat) (x : Nat) (y : Nat) (x4 x5 : Int), (x ≤ 98) → (y ≤ 98) → (Nat.gcd x y = Nat.gcd (hitN D) 98) → y < n62 → x4 = (x : Int) → x5 = (y : Int) → EV G l mX7_newly (d + 2) (fun o h' => o = some (.long ((zI (chV D w)).toInt64)) ∧ h' = h) 62 [some (.int (zI (D))), some (.int (zI (t))), some (.int (zI (w))), some (.int (zI ((hitN D : Int)))), some (.int (zI (x4))), some (.int (zI (x5))), none] [] h 0 0 := by
          intro n62
          induction n62 with
          | zero => intro _ _ _ _ _ _ _ hm; exact absurd hm (Nat.not_lt_zero _)
          | succ n62 ih62 =>
            intro x y x4 x5 hxl hyl hg hm62 e4 e5
            subst e4 e5
            refine EV.iload (i := 5) dX7_newly_62 rfl ?_
            refine EV.ifeq (t := 85) dX7_newly_64 (by decide) (by omega) (fun c64 => ?_) (fun c64 => ?_)
            · skip
              obtain rfl : y = 0 := by omega
              rw [Nat.gcd_zero_right] at hg
              refine EV.lvs (lv' := [some (.int (zI (D))), some (.int (zI (t))), some (.int (zI (w))), some (.int (zI ((hitN D : Int)))), some (.int (zI (((Nat.gcd (hitN D) 98 : Nat) : Int)))), some (.int (zI (((0 : Nat) : Int)))), none]) (by rw [hg]) ?_
              have hgp : 0 < Nat.gcd (hitN D) 98 := by rw [gcd_98]; split <;> decide
              have hgl : Nat.gcd (hitN D) 98 ≤ 98 := by omega
              refine EV.iload_n (i := 2) dX7_newly_85 rfl rfl ?_
              refine EV.ifne (t := 97) dX7_newly_86 (by decide) (by omega) (fun c86 => ?_) (fun c86 => ?_)
              · skip
                refine EV.bipush dX7_newly_97 (by decide) ?_
                refine EV.iload (i := 4) dX7_newly_99 rfl ?_
                refine EV.idiv dX7_newly_101 (by omega) ?_
                refine EV.i2l dX7_newly_102 ?_
                refine EV.lret rfl dX7_newly_103 ?_
                exact lQ (by rw [← ch_fin2, if_neg c86])
              · skip
                refine EV.iload_n (i := 3) dX7_newly_89 rfl rfl ?_
                refine EV.iload (i := 4) dX7_newly_90 rfl ?_
                refine EV.idiv dX7_newly_92 (by omega) ?_
                refine EV.i2l dX7_newly_93 ?_
                refine EV.goto (t := 103) dX7_newly_94 (by decide) ?_
                refine EV.lret rfl dX7_newly_103 ?_
                exact lQ (by rw [← ch_fin2, if_pos c86])
            · skip
              refine EV.iload (i := 4) dX7_newly_67 rfl ?_
              refine EV.iload (i := 5) dX7_newly_69 rfl ?_
              refine EV.irem dX7_newly_71 (by omega) ?_
              refine EV.top (y := zI (((x % y : Nat) : Int))) (rfl) ?_
              refine EV.istore (i := 6) (lv' := [some (.int (zI (D))), some (.int (zI (t))), some (.int (zI (w))), some (.int (zI ((hitN D : Int)))), some (.int (zI ((x : Int)))), some (.int (zI ((y : Int)))), some (.int (zI (((x % y : Nat) : Int))))]) dX7_newly_72 (by decide) rfl ?_
              refine EV.iload (i := 5) dX7_newly_74 rfl ?_
              refine EV.istore (i := 4) (lv' := [some (.int (zI (D))), some (.int (zI (t))), some (.int (zI (w))), some (.int (zI ((hitN D : Int)))), some (.int (zI ((y : Int)))), some (.int (zI ((y : Int)))), some (.int (zI (((x % y : Nat) : Int))))]) dX7_newly_76 (by decide) rfl ?_
              refine EV.iload (i := 6) dX7_newly_78 rfl ?_
              refine EV.istore (i := 5) (lv' := [some (.int (zI (D))), some (.int (zI (t))), some (.int (zI (w))), some (.int (zI ((hitN D : Int)))), some (.int (zI ((y : Int)))), some (.int (zI (((x % y : Nat) : Int)))), some (.int (zI (((x % y : Nat) : Int))))]) dX7_newly_80 (by decide) rfl ?_
              refine EV.goto (t := 62) dX7_newly_82 (by decide) ?_
              refine EV.drop 6 (lv' := [some (.int (zI (D))), some (.int (zI (t))), some (.int (zI (w))), some (.int (zI ((hitN D : Int)))), some (.int (zI ((y : Int)))), some (.int (zI (((x % y : Nat) : Int)))), none]) rfl ?_
              exact ih62 y (x % y) _ _ (by omega) (by have := Nat.mod_lt x (show 0 < y by omega); omega) (by rw [← gcd_st]; exact hg) (by have := Nat.mod_lt x (show 0 < y by omega); omega) (by rfl) (by rfl)
        exact L62 _ (hitN D) 98 _ _ (by omega) (by omega) (rfl) (Nat.lt_succ_self _) (by rfl) (by rfl)
      · skip
        refine EV.iconst dX7_newly_12 ?_
        refine EV.istore (i := 5) (lv' := [some (.int (zI (D))), some (.int (zI (t))), some (.int (zI (w))), some (.int (zI (((cnt (tnB D t) (7 * v) : Nat) : Int)))), some (.int (zI ((v : Int)))), some (.int (zI (0))), none]) dX7_newly_13 (by decide) rfl ?_
        have L15 : ∀ (n15 : Nat) (b : Nat) (x3 x5 : Int), (b ≤ 7) → 7 - b < n15 → x3 = ((cnt (tnB D t) (7 * v + b) : Nat) : Int) → x5 = (b : Int) → EV G l mX7_newly (d + 2) (fun o h' => o = some (.long ((zI (chV D w)).toInt64)) ∧ h' = h) 15 [some (.int (zI (D))), some (.int (zI (t))), some (.int (zI (w))), some (.int (zI (x3))), some (.int (zI ((v : Int)))), some (.int (zI (x5))), none] [] h 0 0 := by
          intro n15
          induction n15 with
          | zero => intro _ _ _ _ hm; exact absurd hm (Nat.not_lt_zero _)
          | succ n15 ih15 =>
            intro b x3 x5 hb hm15 e3 e5
            subst e3 e5
            have hc2 := cnt_le (tnB D t) (7 * v + b)
            refine EV.iload (i := 5) dX7_newly_15 rfl ?_
            refine EV.bipush dX7_newly_17 (by decide) ?_
            refine EV.icmp_ge (t := 49) dX7_newly_19 (by decide) (by omega) (fun c19 => ?_) (fun c19 => ?_)
            · skip
              obtain rfl : b = 7 := by omega
              refine EV.iinc (i := 4) (lv' := [some (.int (zI (D))), some (.int (zI (t))), some (.int (zI (w))), some (.int (zI (((cnt (tnB D t) (7 * v + (7 : Nat)) : Nat) : Int)))), some (.int (zI ((v : Int) + 1))), some (.int (zI (((7 : Nat) : Int)))), none]) dX7_newly_49 rfl (by decide) rfl ?_
              refine EV.goto (t := 5) dX7_newly_52 (by decide) ?_
              refine EV.drop 5 (lv' := [some (.int (zI (D))), some (.int (zI (t))), some (.int (zI (w))), some (.int (zI (((cnt (tnB D t) (7 * v + (7 : Nat)) : Nat) : Int)))), some (.int (zI (((v : Int) + 1)))), none, none]) rfl ?_
              exact ih5 (v + 1) _ _ (by omega) (by omega) (rfl) (rfl)
            · skip
              refine EV.iload_n (i := 3) dX7_newly_22 rfl rfl ?_
              refine EV.iload (i := 4) dX7_newly_23 rfl ?_
              refine EV.iload_n (i := 1) dX7_newly_25 rfl rfl ?_
              refine EV.iload (i := 5) dX7_newly_26 rfl ?_
              refine EV.isub dX7_newly_28 ?_
              refine EV.callSr (M' := mX7_turned) (as := [.int (zI ((v : Int))), .int (zI ((t - (b : Int))))]) (rest := [.int (zI (((cnt (tnB D t) (7 * v + b) : Nat) : Int)))]) ml_X7_119 sm_X7_turned co_X7_turned dX7_newly_29 (c_X7_turned (d + 0) (v : Int) (t - (b : Int)) (by omega) (by omega)) rfl rfl (Nat.le_of_ble_eq_true rfl) ?_
              have htn : 0 ≤ tn (v : Int) (t - (b : Int)) ∧ tn (v : Int) (t - (b : Int)) ≤ 6 := by unfold tn; split <;> omega
              refine EV.iload_n (i := 0) dX7_newly_32 rfl rfl ?_
              refine EV.icmp_ne (t := 40) dX7_newly_33 (by decide) (by omega) (fun c33 => ?_) (fun c33 => ?_)
              · skip
                refine EV.iconst dX7_newly_40 ?_
                refine EV.iadd dX7_newly_41 ?_
                refine EV.istore_n (i := 3) (lv' := [some (.int (zI (D))), some (.int (zI (t))), some (.int (zI (w))), some (.int (zI ((((cnt (tnB D t) (7 * v + b) : Nat) : Int) + 0)))), some (.int (zI ((v : Int)))), some (.int (zI ((b : Int)))), none]) dX7_newly_42 rfl (by decide) rfl ?_
                refine EV.iinc (i := 5) (lv' := [some (.int (zI (D))), some (.int (zI (t))), some (.int (zI (w))), some (.int (zI ((((cnt (tnB D t) (7 * v + b) : Nat) : Int) + 0)))), some (.int (zI ((v : Int)))), some (.int (zI ((b : Int) + 1))), none]) dX7_newly_43 rfl (by decide) rfl ?_
                refine EV.goto (t := 15) dX7_newly_46 (by decide) ?_
                exact ih15 (b + 1) _ _ (by omega) (by omega) (by rw [Int.add_zero]; exact cnt_n (f := tnB D t) (by rw [tnB_e (by omega)]; exact decide_eq_false c33)) (rfl)
              · skip
                refine EV.iconst dX7_newly_36 ?_
                refine EV.goto (t := 41) dX7_newly_37 (by decide) ?_
                refine EV.iadd dX7_newly_41 ?_
                refine EV.istore_n (i := 3) (lv' := [some (.int (zI (D))), some (.int (zI (t))), some (.int (zI (w))), some (.int (zI ((((cnt (tnB D t) (7 * v + b) : Nat) : Int) + 1)))), some (.int (zI ((v : Int)))), some (.int (zI ((b : Int)))), none]) dX7_newly_42 rfl (by decide) rfl ?_
                refine EV.iinc (i := 5) (lv' := [some (.int (zI (D))), some (.int (zI (t))), some (.int (zI (w))), some (.int (zI ((((cnt (tnB D t) (7 * v + b) : Nat) : Int) + 1)))), some (.int (zI ((v : Int)))), some (.int (zI ((b : Int) + 1))), none]) dX7_newly_43 rfl (by decide) rfl ?_
                refine EV.goto (t := 15) dX7_newly_46 (by decide) ?_
                exact ih15 (b + 1) _ _ (by omega) (by omega) (cnt_y (f := tnB D t) (by rw [tnB_e (by omega)]; exact decide_eq_true c33)) (rfl)
        exact L15 _ 0 _ _ (by omega) (Nat.lt_succ_self _) (rfl) (rfl)
  exact L5 _ 0 _ _ (by omega) (Nat.lt_succ_self _) (rfl) (rfl)
set_option maxHeartbeats 4000000 in
set_option maxRecDepth 20000 in
theorem c_X7_chance (d : Nat) (hM : ModAt G h m A F P T K la im ik) (hW : WF F) (hK : WFK K) (hP : WFP P) (hT : WFT T) (D t w : Int) (hD : inR D) (ht : inR t) (hw : inR w) : CT G l mX7_chance (d + 3) 0 0 [.ref m, .int (zI (D)), .int (zI (t)), .int (zI (w))] h (fun o h' => o = some (.long (chanceR D t w)) ∧ h' = h) := by
  refine CT.of (by decide) (Nat.le_of_ble_eq_true rfl) (List.forall_mem_cons.mpr ⟨rfl, List.forall_mem_cons.mpr ⟨rfl, List.forall_mem_cons.mpr ⟨rfl, List.forall_mem_cons.mpr ⟨rfl, fun _ h => absurd h List.not_mem_nil⟩⟩⟩⟩) ?_
  refine EV.lvs (lv' := [some (.ref m), some (.int (zI (D))), some (.int (zI (t))), some (.int (zI (w)))]) rfl ?_
  have ⟨hcm, hc0, hc1, hc2, hc3, hc4, hc5, hc6, hc7, hc8, hc9⟩ := hM
  have hth := hW.1
  have hK6 := hK.1
  have hP6 := hP.1
  have hT6 := hT.1
  have hsf : ∀ q, q < 6 → F.1.testBit q = true → F.1.testBit q = true := fun _ _ z => z
  refine EV.iload_n (i := 1) dX7_chance_0 rfl rfl ?_
  refine EV.callSr (M' := mX7_isDay) (as := [.int (zI (D))]) (rest := []) ml_X7_56 sm_X7_isDay co_X7_isDay dX7_chance_1 (c_X7_isDay (d + 0) D (by omega)) rfl rfl (Nat.le_of_ble_eq_true rfl) ?_
  refine EV.ifneB (t := 11) dX7_chance_4 (by decide) (fun c4 => ?_) (fun c4 => ?_)
  · skip
    have c4r := of_rg c4
    refine EV.iload_n (i := 2) dX7_chance_11 rfl rfl ?_
    refine EV.callSr (M' := mX7_isDate) (as := [.int (zI (t))]) (rest := []) ml_X7_77 sm_X7_isDate co_X7_isDate dX7_chance_12 (c_X7_isDate (d + 0) t (by omega)) rfl rfl (Nat.le_of_ble_eq_true rfl) ?_
    refine EV.ifeqB (t := 36) dX7_chance_15 (by decide) (fun c15 => ?_) (fun c15 => ?_)
    · skip
      have c15r := of_nrg c15
      refine EV.ldc2 dX7_chance_36 ct_X7_140 ?_
      refine EV.lret rfl dX7_chance_39 ?_
      exact ⟨by simp [chanceR, c4, c15], rfl⟩
    · skip
      have c15r := of_rg c15
      refine EV.iload_n (i := 3) dX7_chance_18 rfl rfl ?_
      refine EV.iconst dX7_chance_19 ?_
      refine EV.iconst dX7_chance_20 ?_
      refine EV.callSr (M' := mX7_in) (as := [.int (zI (w)), .int (zI (0)), .int (zI (1))]) (rest := []) ml_X7_45 sm_X7_in co_X7_in dX7_chance_21 (c_X7_in (d + 1) w 0 1 (by omega) (by omega) (by omega)) rfl rfl (Nat.le_of_ble_eq_true rfl) ?_
      refine EV.ifeqB (t := 36) dX7_chance_24 (by decide) (fun c24 => ?_) (fun c24 => ?_)
      · skip
        have c24r := of_nrg c24
        refine EV.ldc2 dX7_chance_36 ct_X7_140 ?_
        refine EV.lret rfl dX7_chance_39 ?_
        exact ⟨by simp [chanceR, c4, c24], rfl⟩
      · skip
        have c24r := of_rg c24
        refine EV.iload_n (i := 1) dX7_chance_27 rfl rfl ?_
        refine EV.iload_n (i := 2) dX7_chance_28 rfl rfl ?_
        refine EV.iload_n (i := 3) dX7_chance_29 rfl rfl ?_
        refine EV.callSr (M' := mX7_newly) (as := [.int (zI (D)), .int (zI (t)), .int (zI (w))]) (rest := []) ml_X7_136 sm_X7_newly co_X7_newly dX7_chance_30 (c_X7_newly (d + 0) D t w (by omega) (by omega) (by omega)) rfl rfl (Nat.le_of_ble_eq_true rfl) ?_
        refine EV.goto (t := 39) dX7_chance_33 (by decide) ?_
        refine EV.lret rfl dX7_chance_39 ?_
        exact ⟨by simp [chanceR, c4, c15, c24], rfl⟩
  · skip
    have c4r := of_nrg c4
    refine EV.ldc2 dX7_chance_7 ct_X7_134 ?_
    refine EV.lret rfl dX7_chance_10 ?_
    exact ⟨by simp [chanceR, c4], rfl⟩
set_option maxHeartbeats 4000000 in
set_option maxRecDepth 20000 in
theorem c_X7_shares (d : Nat) (hM : ModAt G h m A F P T K la im ik) (hW : WF F) (hK : WFK K) (hP : WFP P) (hT : WFT T) (z t w : Int) (hz : inR z) (ht : inR t) (hw : inR w) : CT G l mX7_shares (d + 3) 0 0 [.ref m, .int (zI (z)), .int (zI (t)), .int (zI (w))] h (fun o h' => o = some (.long (sharesR F z t w)) ∧ h' = h) := by
  refine CT.of (by decide) (Nat.le_of_ble_eq_true rfl) (List.forall_mem_cons.mpr ⟨rfl, List.forall_mem_cons.mpr ⟨rfl, List.forall_mem_cons.mpr ⟨rfl, List.forall_mem_cons.mpr ⟨rfl, fun _ h => absurd h List.not_mem_nil⟩⟩⟩⟩) ?_
  refine EV.lvs (lv' := [some (.ref m), some (.int (zI (z))), some (.int (zI (t))), some (.int (zI (w)))]) rfl ?_
  have ⟨hcm, hc0, hc1, hc2, hc3, hc4, hc5, hc6, hc7, hc8, hc9⟩ := hM
  have hth := hW.1
  have hK6 := hK.1
  have hP6 := hP.1
  have hT6 := hT.1
  have hsf : ∀ q, q < 6 → F.1.testBit q = true → F.1.testBit q = true := fun _ _ z => z
  refine EV.aload_n (i := 0) dX7_shares_0 rfl rfl ?_
  refine EV.iload_n (i := 1) dX7_shares_1 rfl rfl ?_
  refine EV.callVr (M' := mX7_isThere) (as := [.int (zI (z))]) (rest := []) ml_X7_67 im_X7_isThere se_X7_isThere rfl co_X7_isThere dX7_shares_2 hcm (c_X7_isThere (d + 0) hM hW z (by omega)) rfl rfl (Nat.le_of_ble_eq_true rfl) ?_
  refine EV.ifneB (t := 12) dX7_shares_5 (by decide) (fun c5 => ?_) (fun c5 => ?_)
  · skip
    obtain ⟨p, hp, rfl, hb⟩ := thI_p c5
    refine EV.iload_n (i := 2) dX7_shares_12 rfl rfl ?_
    refine EV.callSr (M' := mX7_isDate) (as := [.int (zI (t))]) (rest := []) ml_X7_77 sm_X7_isDate co_X7_isDate dX7_shares_13 (c_X7_isDate (d + 0) t (by omega)) rfl rfl (Nat.le_of_ble_eq_true rfl) ?_
    refine EV.ifeqB (t := 42) dX7_shares_16 (by decide) (fun c16 => ?_) (fun c16 => ?_)
    · skip
      have c16r := of_nrg c16
      refine EV.ldc2 dX7_shares_42 ct_X7_140 ?_
      refine EV.lret rfl dX7_shares_45 ?_
      exact ⟨by simp [sharesR, c5, c16], rfl⟩
    · skip
      have c16r := of_rg c16
      refine EV.iload_n (i := 3) dX7_shares_19 rfl rfl ?_
      refine EV.iconst dX7_shares_20 ?_
      refine EV.iconst dX7_shares_21 ?_
      refine EV.callSr (M' := mX7_in) (as := [.int (zI (w)), .int (zI (0)), .int (zI (1))]) (rest := []) ml_X7_45 sm_X7_in co_X7_in dX7_shares_22 (c_X7_in (d + 1) w 0 1 (by omega) (by omega) (by omega)) rfl rfl (Nat.le_of_ble_eq_true rfl) ?_
      refine EV.ifeqB (t := 42) dX7_shares_25 (by decide) (fun c25 => ?_) (fun c25 => ?_)
      · skip
        have c25r := of_nrg c25
        refine EV.ldc2 dX7_shares_42 ct_X7_140 ?_
        refine EV.lret rfl dX7_shares_45 ?_
        exact ⟨by simp [sharesR, c5, c25], rfl⟩
      · skip
        have c25r := of_rg c25
        refine EV.aload_n (i := 0) dX7_shares_28 rfl rfl ?_
        refine EV.iload_n (i := 1) dX7_shares_29 rfl rfl ?_
        refine EV.iload_n (i := 2) dX7_shares_30 rfl rfl ?_
        refine EV.callVr (M' := mX7_dayOf) (as := [.int (zI ((p : Int))), .int (zI (t))]) (rest := []) ml_X7_80 im_X7_dayOf se_X7_dayOf rfl co_X7_dayOf dX7_shares_31 hcm (c_X7_dayOf (d + 1) hM hW p t (by omega) hb (by omega)) rfl rfl (Nat.le_of_ble_eq_true rfl) ?_
        have hdy := hW.dy (p := p) (by omega) hb t
        refine EV.iload_n (i := 2) dX7_shares_34 rfl rfl ?_
        refine EV.iload_n (i := 3) dX7_shares_35 rfl rfl ?_
        refine EV.callSr (M' := mX7_newly) (as := [.int (zI (dy F p t)), .int (zI (t)), .int (zI (w))]) (rest := []) ml_X7_136 sm_X7_newly co_X7_newly dX7_shares_36 (c_X7_newly (d + 0) (dy F p t) t w (by omega) (by omega) (by omega)) rfl rfl (Nat.le_of_ble_eq_true rfl) ?_
        refine EV.goto (t := 45) dX7_shares_39 (by decide) ?_
        refine EV.lret rfl dX7_shares_45 ?_
        exact ⟨by rw [sharesR, if_pos c5, if_pos (by rw [c16, c25]; rfl), dn_y hp hb], rfl⟩
  · skip
    refine EV.ldc2 dX7_shares_8 ct_X7_134 ?_
    refine EV.lret rfl dX7_shares_11 ?_
    exact ⟨by simp [sharesR, c5], rfl⟩
end
