def yrl (F : FK) (s : Int) (n : Nat) : Int := if (yrS F s n).2.1 = 0 then -6 else (yrS F s n).2.2.2.1
theorem yr_z {F : FK} {s : Int} : ∀ n : Nat, (yrS F s n).2.1 = 0 → (yrS F s n).2.2.2.2 = 0
  | 0, _ => rfl
  | n + 1, h => by
    cases hm : yrM F ((75 * (yrS F s n).1 + 74) % 65537) n with
    | false => rw [yr_n hm] at h ⊢; exact yr_z n h
    | true => rw [yr_y hm] at h; exact absurd h (Nat.succ_ne_zero _)
theorem yrl_c (F : FK) (s : Int) (n : Nat) : ((yrS F s n).2.1 = 0 ∧ yrl F s n = -6 ∧ (yrS F s n).2.2.2.2 = 0) ∨ ((yrS F s n).2.1 ≠ 0 ∧ yrl F s n = (yrS F s n).2.2.2.1) := by
  by_cases h : (yrS F s n).2.1 = 0
  · exact Or.inl ⟨h, if_pos h, yr_z n h⟩
  · exact Or.inr ⟨h, if_neg h⟩
theorem tp_5 {F : FK} {z : Int} (hz : 100 ≤ z) (h : thI F (z / 100 - 1) = true → ¬ z % 100 < F.2.2.1 (z / 100 - 1).toNat) : toldP F z = -2 := by
  unfold toldP
  rw [if_neg (by rw [rg_f (by omega)]; simp), if_neg (by rw [rg_f (by omega)]; simp), if_neg]
  intro h2
  rw [Bool.and_eq_true, Bool.and_eq_true, decide_eq_true_eq] at h2
  exact h h2.2.1 h2.2.2
theorem tp_6 {F : FK} {z : Int} (hz : z < 10 ∨ 29 < z) (h : z < 100) : toldP F z = -2 := by
  unfold toldP
  rw [if_neg (by rw [rg_f (by omega)]; simp), if_neg (by rw [rg_f (by omega)]; simp), if_neg (by rw [rg_f (by omega)]; simp)]
theorem tp_7 {F : FK} {z : Int} (hz : 10 ≤ z ∧ z ≤ 29) (h : thI F (z % 10) = false) : toldP F z = -2 := by
  unfold toldP
  rw [if_neg, if_neg, if_neg (by rw [rg_f (by omega)]; simp)]
  · intro h2
    rw [Bool.and_eq_true] at h2
    have := of_rg h2.1
    rw [show z - 20 = z % 10 by omega, h] at h2
    exact absurd h2.2 (by decide)
  · intro h2
    rw [Bool.and_eq_true] at h2
    have := of_rg h2.1
    rw [show z - 10 = z % 10 by omega, h] at h2
    exact absurd h2.2 (by decide)
theorem toldR_p {K : PD} {F : FK} {P : PL} {T : ST} {z : Int} (h : z < 0 ∨ 3 < z) (h2 : z < 1000) : toldR K F P T z = toldP F z := by
  rw [toldR, if_neg (by omega), if_neg (by omega), if_neg (by omega), if_neg (by omega), if_pos h2]
theorem toldR_w {K : PD} {F : FK} {P : PL} {T : ST} {z : Int} (h2 : 1000 ≤ z) : toldR K F P T z = toldW P z := by
  rw [toldR, if_neg (by omega), if_neg (by omega), if_neg (by omega), if_neg (by omega), if_neg (by omega)]
section
variable {G : GG} {l : Launch}
variable {h : Hp} {m : Nat} {A : Nat → Nat} {F : FK} {P : PL} {T : ST} {K : PD} {la im ik : Nat → Int}
set_option maxHeartbeats 4000000 in
set_option maxRecDepth 20000 in
theorem c_X7_year (d : Nat) (hM : ModAt G h m A F P T K la im ik) (hW : WF F) (hK : WFK K) (hP : WFP P) (hT : WFT T) (s m2 w : Int) (hs : inR s) (hm : inR m2) (hw : inR w) : CT G l mX7_year (d + 3) 0 0 [.ref m, .int (zI (s)), .int (zI (m2)), .int (zI (w))] h (RQ h (yearR F s m2 w)) := by
  refine CT.of (by decide) (Nat.le_of_ble_eq_true rfl) (List.forall_mem_cons.mpr ⟨rfl, List.forall_mem_cons.mpr ⟨rfl, List.forall_mem_cons.mpr ⟨rfl, List.forall_mem_cons.mpr ⟨rfl, fun _ h => absurd h List.not_mem_nil⟩⟩⟩⟩) ?_
  refine EV.lvs (lv' := [some (.ref m), some (.int (zI (s))), some (.int (zI (m2))), some (.int (zI (w))), none, none, none, none, none, none, none, none]) rfl ?_
  have ⟨hcm, hc0, hc1, hc2, hc3, hc4, hc5, hc6, hc7, hc8, hc9⟩ := hM
  have hth := hW.1
  have hK6 := hK.1
  have hP6 := hP.1
  have hT6 := hT.1
  have hsf : ∀ q, q < 6 → F.1.testBit q = true → F.1.testBit q = true := fun _ _ z => z
  refine EV.iload_n (i := 1) dX7_year_0 rfl rfl ?_
  refine EV.iconst dX7_year_1 ?_
  refine EV.sipush dX7_year_2 (by decide) ?_
  refine EV.callSr (M' := mX7_in) (as := [.int (zI (s)), .int (zI (0)), .int (zI (9999))]) (rest := []) ml_X7_45 sm_X7_in co_X7_in dX7_year_5 (c_X7_in (d + 1) s 0 9999 (by omega) (by omega) (by omega)) rfl rfl (Nat.le_of_ble_eq_true rfl) ?_
  refine EV.ifeqB (t := 31) dX7_year_8 (by decide) (fun c8 => ?_) (fun c8 => ?_)
  · skip
    have c8r := of_nrg c8
    refine EV.bipush dX7_year_31 (by decide) ?_
    refine EV.iret rfl dX7_year_33 ?_
    exact rQ (by rw [yearR, if_neg (fun hh => by simp only [Bool.and_eq_true, rg, decide_eq_true_eq] at hh; omega)])
  · skip
    have c8r := of_rg c8
    refine EV.iload_n (i := 2) dX7_year_11 rfl rfl ?_
    refine EV.iconst dX7_year_12 ?_
    refine EV.sipush dX7_year_13 (by decide) ?_
    refine EV.callSr (M' := mX7_in) (as := [.int (zI (m2)), .int (zI (1)), .int (zI (999))]) (rest := []) ml_X7_45 sm_X7_in co_X7_in dX7_year_16 (c_X7_in (d + 1) m2 1 999 (by omega) (by omega) (by omega)) rfl rfl (Nat.le_of_ble_eq_true rfl) ?_
    refine EV.ifeqB (t := 31) dX7_year_19 (by decide) (fun c19 => ?_) (fun c19 => ?_)
    · skip
      have c19r := of_nrg c19
      refine EV.bipush dX7_year_31 (by decide) ?_
      refine EV.iret rfl dX7_year_33 ?_
      exact rQ (by rw [yearR, if_neg (fun hh => by simp only [Bool.and_eq_true, rg, decide_eq_true_eq] at hh; omega)])
    · skip
      have c19r := of_rg c19
      refine EV.iload_n (i := 3) dX7_year_22 rfl rfl ?_
      refine EV.iconst dX7_year_23 ?_
      refine EV.iconst dX7_year_24 ?_
      refine EV.callSr (M' := mX7_in) (as := [.int (zI (w)), .int (zI (0)), .int (zI (2))]) (rest := []) ml_X7_45 sm_X7_in co_X7_in dX7_year_25 (c_X7_in (d + 1) w 0 2 (by omega) (by omega) (by omega)) rfl rfl (Nat.le_of_ble_eq_true rfl) ?_
      refine EV.ifneB (t := 34) dX7_year_28 (by decide) (fun c28 => ?_) (fun c28 => ?_)
      · skip
        have c28r := of_rg c28
        obtain ⟨mm, rfl⟩ : ∃ mm : Nat, m2 = (mm : Int) := ⟨m2.toNat, by omega⟩
        refine EV.iload_n (i := 1) dX7_year_34 rfl rfl ?_
        refine EV.istore (i := 4) (lv' := [some (.ref m), some (.int (zI (s))), some (.int (zI ((mm : Int)))), some (.int (zI (w))), some (.int (zI (s))), none, none, none, none, none, none, none]) dX7_year_35 (by decide) rfl ?_
        refine EV.iconst dX7_year_37 ?_
        refine EV.istore (i := 5) (lv' := [some (.ref m), some (.int (zI (s))), some (.int (zI ((mm : Int)))), some (.int (zI (w))), some (.int (zI (s))), some (.int (zI (0))), none, none, none, none, none, none]) dX7_year_38 (by decide) rfl ?_
        refine EV.iconst dX7_year_40 ?_
        refine EV.istore (i := 6) (lv' := [some (.ref m), some (.int (zI (s))), some (.int (zI ((mm : Int)))), some (.int (zI (w))), some (.int (zI (s))), some (.int (zI (0))), some (.int (zI (0))), none, none, none, none, none]) dX7_year_41 (by decide) rfl ?_
        refine EV.bipush dX7_year_43 (by decide) ?_
        refine EV.istore (i := 7) (lv' := [some (.ref m), some (.int (zI (s))), some (.int (zI ((mm : Int)))), some (.int (zI (w))), some (.int (zI (s))), some (.int (zI (0))), some (.int (zI (0))), some (.int (zI ((-6)))), none, none, none, none]) dX7_year_45 (by decide) rfl ?_
        refine EV.iconst dX7_year_47 ?_
        refine EV.istore (i := 8) (lv' := [some (.ref m), some (.int (zI (s))), some (.int (zI ((mm : Int)))), some (.int (zI (w))), some (.int (zI (s))), some (.int (zI (0))), some (.int (zI (0))), some (.int (zI ((-6)))), some (.int (zI (0))), none, none, none]) dX7_year_48 (by decide) rfl ?_
        refine EV.iconst dX7_year_50 ?_
        refine EV.istore (i := 9) (lv' := [some (.ref m), some (.int (zI (s))), some (.int (zI ((mm : Int)))), some (.int (zI (w))), some (.int (zI (s))), some (.int (zI (0))), some (.int (zI (0))), some (.int (zI ((-6)))), some (.int (zI (0))), some (.int (zI (0))), none, none]) dX7_year_51 (by decide) rfl ?_
        have L53 : ∀ (n53 : Nat) (n : Nat) (x4 x5 x6 x7 x8 x9 : Int), (n ≤ mm) → mm - n < n53 → x4 = (yrS F s n).1 → x5 = ((yrS F s n).2.1 : Int) → x6 = ((yrS F s n).2.2.1 : Int) → x7 = yrl F s n → x8 = (yrS F s n).2.2.2.2 → x9 = (n : Int) → EV G l mX7_year (d + 3) (RQ h (yearR F s (mm : Int) w)) 53 [some (.ref m), some (.int (zI (s))), some (.int (zI ((mm : Int)))), some (.int (zI (w))), some (.int (zI (x4))), some (.int (zI (x5))), some (.int (zI (x6))), some (.int (zI (x7))), some (.int (zI (x8))), some (.int (zI (x9))), none, none] [] h 0 0 := by
          intro n53
          induction n53 with
          | zero => intro _ _ _ _ _ _ _ _ hm; exact absurd hm (Nat.not_lt_zero _)
          | succ n53 ih53 =>
            intro n x4 x5 x6 x7 x8 x9 hn hm53 e4 e5 e6 e7 e8 e9
            subst e4 e5 e6 e7 e8 e9
            have hyi := yr_in hW c8r n
            have hyl := yrl_c F s n
            refine EV.iload (i := 9) dX7_year_53 rfl ?_
            refine EV.iload_n (i := 2) dX7_year_55 rfl rfl ?_
            refine EV.icmp_ge (t := 194) dX7_year_56 (by decide) (by omega) (fun c56 => ?_) (fun c56 => ?_)
            · skip
              have hnm : mm = n := by omega
              subst hnm
              refine EV.iload_n (i := 3) dX7_year_194 rfl rfl ?_
              refine EV.ifne (t := 203) dX7_year_195 (by decide) (by omega) (fun c195 => ?_) (fun c195 => ?_)
              · skip
                refine EV.iload_n (i := 3) dX7_year_203 rfl rfl ?_
                refine EV.iconst dX7_year_204 ?_
                refine EV.icmp_ne (t := 216) dX7_year_205 (by decide) (by omega) (fun c205 => ?_) (fun c205 => ?_)
                · skip
                  refine EV.iload (i := 8) dX7_year_216 rfl ?_
                  refine EV.iret rfl dX7_year_218 ?_
                  exact rQ (by rw [yearR, if_pos (by rw [c8, c19, c28]; rfl), Int.toNat_natCast, if_neg c195, if_neg c205])
                · skip
                  refine EV.iload (i := 6) dX7_year_208 rfl ?_
                  refine EV.callSr (M' := mX7_bits) (as := [.int (zI (((yrS F s mm).2.2.1 : Int)))]) (rest := []) ml_X7_70 sm_X7_bits co_X7_bits dX7_year_210 (c_X7_bits (d + 1) (yrS F s mm).2.2.1 (by omega)) rfl rfl (Nat.le_of_ble_eq_true rfl) ?_
                  refine EV.goto (t := 218) dX7_year_213 (by decide) ?_
                  refine EV.iret rfl dX7_year_218 ?_
                  exact rQ (by rw [yearR, if_pos (by rw [c8, c19, c28]; rfl), Int.toNat_natCast, if_neg c195, if_pos c205])
              · skip
                refine EV.iload (i := 5) dX7_year_198 rfl ?_
                refine EV.goto (t := 218) dX7_year_200 (by decide) ?_
                refine EV.iret rfl dX7_year_218 ?_
                exact rQ (by rw [yearR, if_pos (by rw [c8, c19, c28]; rfl), Int.toNat_natCast, if_pos c195])
            · skip
              refine EV.bipush dX7_year_59 (by decide) ?_
              refine EV.iload (i := 4) dX7_year_61 rfl ?_
              refine EV.imul dX7_year_63 ?_
              refine EV.bipush dX7_year_64 (by decide) ?_
              refine EV.iadd dX7_year_66 ?_
              refine EV.ldc dX7_year_67 ct_X7_142 ?_
              refine EV.irem dX7_year_69 (by omega) ?_
              refine EV.top (y := zI (((75 * (yrS F s n).1 + 74) % 65537))) (by rw [Int.tmod_eq_emod_of_nonneg (by omega)]) ?_
              refine EV.istore (i := 4) (lv' := [some (.ref m), some (.int (zI (s))), some (.int (zI ((mm : Int)))), some (.int (zI (w))), some (.int (zI (((75 * (yrS F s n).1 + 74) % 65537)))), some (.int (zI (((yrS F s n).2.1 : Int)))), some (.int (zI (((yrS F s n).2.2.1 : Int)))), some (.int (zI (yrl F s n))), some (.int (zI ((yrS F s n).2.2.2.2))), some (.int (zI ((n : Int)))), none, none]) dX7_year_70 (by decide) rfl ?_
              refine EV.iload (i := 4) dX7_year_72 rfl ?_
              refine EV.bipush dX7_year_74 (by decide) ?_
              refine EV.irem dX7_year_76 (by omega) ?_
              obtain ⟨p, e1⟩ : ∃ p : Nat, ((75 * (yrS F s n).1 + 74) % 65537) % 6 = (p : Int) := ⟨(((75 * (yrS F s n).1 + 74) % 65537) % 6).toNat, by omega⟩
              have hp6 : p < 6 := by omega
              refine EV.top (y := zI ((p : Int))) (by rw [Int.tmod_eq_emod_of_nonneg (by omega), e1]) ?_
              refine EV.istore (i := 10) (lv' := [some (.ref m), some (.int (zI (s))), some (.int (zI ((mm : Int)))), some (.int (zI (w))), some (.int (zI (((75 * (yrS F s n).1 + 74) % 65537)))), some (.int (zI (((yrS F s n).2.1 : Int)))), some (.int (zI (((yrS F s n).2.2.1 : Int)))), some (.int (zI (yrl F s n))), some (.int (zI ((yrS F s n).2.2.2.2))), some (.int (zI ((n : Int)))), some (.int (zI ((p : Int)))), none]) dX7_year_77 (by decide) rfl ?_
              refine EV.iload (i := 4) dX7_year_79 rfl ?_
              refine EV.bipush dX7_year_81 (by decide) ?_
              refine EV.idiv dX7_year_83 (by omega) ?_
              refine EV.top (y := zI (((75 * (yrS F s n).1 + 74) % 65537) / 6)) (by rw [Int.tdiv_eq_ediv_of_nonneg (by omega)]) ?_
              refine EV.bipush dX7_year_84 (by decide) ?_
              refine EV.irem dX7_year_86 (by omega) ?_
              obtain ⟨q, e2⟩ : ∃ q : Nat, ((75 * (yrS F s n).1 + 74) % 65537) / 6 % 6 = (q : Int) := ⟨(((75 * (yrS F s n).1 + 74) % 65537) / 6 % 6).toNat, by omega⟩
              have hq6 : q < 6 := by omega
              refine EV.top (y := zI ((q : Int))) (by rw [Int.tmod_eq_emod_of_nonneg (by omega), e2]) ?_
              refine EV.istore (i := 11) (lv' := [some (.ref m), some (.int (zI (s))), some (.int (zI ((mm : Int)))), some (.int (zI (w))), some (.int (zI (((75 * (yrS F s n).1 + 74) % 65537)))), some (.int (zI (((yrS F s n).2.1 : Int)))), some (.int (zI (((yrS F s n).2.2.1 : Int)))), some (.int (zI (yrl F s n))), some (.int (zI ((yrS F s n).2.2.2.2))), some (.int (zI ((n : Int)))), some (.int (zI ((p : Int)))), some (.int (zI ((q : Int))))]) dX7_year_87 (by decide) rfl ?_
              refine EV.iload (i := 10) dX7_year_89 rfl ?_
              refine EV.iload (i := 11) dX7_year_91 rfl ?_
              refine EV.icmp_eq (t := 188) dX7_year_93 (by decide) (by omega) (fun c93 => ?_) (fun c93 => ?_)
              · skip
                have hmf : yrM F ((75 * (yrS F s n).1 + 74) % 65537) n = false := by unfold yrM; rw [e1, e2, twI_f1 (Or.inr (Or.inr c93))]; rfl
                have y1 : ((75 * (yrS F s n).1 + 74) % 65537) = (yrS F s (n + 1)).1 := by rw [yr_n hmf]
                have y2 : ((yrS F s n).2.1 : Int) = ((yrS F s (n + 1)).2.1 : Int) := by rw [yr_n hmf]
                have y3 : ((yrS F s n).2.2.1 : Int) = ((yrS F s (n + 1)).2.2.1 : Int) := by rw [yr_n hmf]
                have y4 : yrl F s n = yrl F s (n + 1) := by unfold yrl; rw [yr_n hmf]
                have y5 : (yrS F s n).2.2.2.2 = (yrS F s (n + 1)).2.2.2.2 := by rw [yr_n hmf]
                refine EV.iinc (i := 9) (lv' := [some (.ref m), some (.int (zI (s))), some (.int (zI ((mm : Int)))), some (.int (zI (w))), some (.int (zI (((75 * (yrS F s n).1 + 74) % 65537)))), some (.int (zI (((yrS F s n).2.1 : Int)))), some (.int (zI (((yrS F s n).2.2.1 : Int)))), some (.int (zI (yrl F s n))), some (.int (zI ((yrS F s n).2.2.2.2))), some (.int (zI ((n : Int) + 1))), some (.int (zI ((p : Int)))), some (.int (zI ((q : Int))))]) dX7_year_188 rfl (by decide) rfl ?_
                refine EV.goto (t := 53) dX7_year_191 (by decide) ?_
                refine EV.drop 10 (lv' := [some (.ref m), some (.int (zI (s))), some (.int (zI ((mm : Int)))), some (.int (zI (w))), some (.int (zI (((75 * (yrS F s n).1 + 74) % 65537)))), some (.int (zI (((yrS F s n).2.1 : Int)))), some (.int (zI (((yrS F s n).2.2.1 : Int)))), some (.int (zI (yrl F s n))), some (.int (zI ((yrS F s n).2.2.2.2))), some (.int (zI (((n : Int) + 1)))), none, some (.int (zI ((q : Int))))]) rfl ?_
                refine EV.drop 11 (lv' := [some (.ref m), some (.int (zI (s))), some (.int (zI ((mm : Int)))), some (.int (zI (w))), some (.int (zI (((75 * (yrS F s n).1 + 74) % 65537)))), some (.int (zI (((yrS F s n).2.1 : Int)))), some (.int (zI (((yrS F s n).2.2.1 : Int)))), some (.int (zI (yrl F s n))), some (.int (zI ((yrS F s n).2.2.2.2))), some (.int (zI (((n : Int) + 1)))), none, none]) rfl ?_
                exact ih53 (n + 1) _ _ _ _ _ _ (by omega) (by omega) (y1) (y2) (y3) (y4) (y5) (rfl)
              · skip
                refine EV.aload_n (i := 0) dX7_year_96 rfl rfl ?_
                refine EV.getf fl_X7_41 dX7_year_97 hcm rfl ?_
                refine EV.iload (i := 10) dX7_year_100 rfl ?_
                refine EV.callSr (M' := mX7_has) (as := [.int (zI ((F.1 : Int))), .int (zI ((p : Int)))]) (rest := []) ml_X7_49 sm_X7_has co_X7_has dX7_year_102 (c_X7_has (d + 1) F.1 p (by omega) (by omega)) rfl rfl (Nat.le_of_ble_eq_true rfl) ?_
                refine EV.ifeqB (t := 188) dX7_year_105 (by decide) (fun c105 => ?_) (fun c105 => ?_)
                · skip
                  have hmf : yrM F ((75 * (yrS F s n).1 + 74) % 65537) n = false := by unfold yrM; rw [e1, e2, twI_f1 (Or.inl ((thI_n F hp6).trans c105))]; rfl
                  have y1 : ((75 * (yrS F s n).1 + 74) % 65537) = (yrS F s (n + 1)).1 := by rw [yr_n hmf]
                  have y2 : ((yrS F s n).2.1 : Int) = ((yrS F s (n + 1)).2.1 : Int) := by rw [yr_n hmf]
                  have y3 : ((yrS F s n).2.2.1 : Int) = ((yrS F s (n + 1)).2.2.1 : Int) := by rw [yr_n hmf]
                  have y4 : yrl F s n = yrl F s (n + 1) := by unfold yrl; rw [yr_n hmf]
                  have y5 : (yrS F s n).2.2.2.2 = (yrS F s (n + 1)).2.2.2.2 := by rw [yr_n hmf]
                  refine EV.iinc (i := 9) (lv' := [some (.ref m), some (.int (zI (s))), some (.int (zI ((mm : Int)))), some (.int (zI (w))), some (.int (zI (((75 * (yrS F s n).1 + 74) % 65537)))), some (.int (zI (((yrS F s n).2.1 : Int)))), some (.int (zI (((yrS F s n).2.2.1 : Int)))), some (.int (zI (yrl F s n))), some (.int (zI ((yrS F s n).2.2.2.2))), some (.int (zI ((n : Int) + 1))), some (.int (zI ((p : Int)))), some (.int (zI ((q : Int))))]) dX7_year_188 rfl (by decide) rfl ?_
                  refine EV.goto (t := 53) dX7_year_191 (by decide) ?_
                  refine EV.drop 10 (lv' := [some (.ref m), some (.int (zI (s))), some (.int (zI ((mm : Int)))), some (.int (zI (w))), some (.int (zI (((75 * (yrS F s n).1 + 74) % 65537)))), some (.int (zI (((yrS F s n).2.1 : Int)))), some (.int (zI (((yrS F s n).2.2.1 : Int)))), some (.int (zI (yrl F s n))), some (.int (zI ((yrS F s n).2.2.2.2))), some (.int (zI (((n : Int) + 1)))), none, some (.int (zI ((q : Int))))]) rfl ?_
                  refine EV.drop 11 (lv' := [some (.ref m), some (.int (zI (s))), some (.int (zI ((mm : Int)))), some (.int (zI (w))), some (.int (zI (((75 * (yrS F s n).1 + 74) % 65537)))), some (.int (zI (((yrS F s n).2.1 : Int)))), some (.int (zI (((yrS F s n).2.2.1 : Int)))), some (.int (zI (yrl F s n))), some (.int (zI ((yrS F s n).2.2.2.2))), some (.int (zI (((n : Int) + 1)))), none, none]) rfl ?_
                  exact ih53 (n + 1) _ _ _ _ _ _ (by omega) (by omega) (y1) (y2) (y3) (y4) (y5) (rfl)
                · skip
                  refine EV.aload_n (i := 0) dX7_year_108 rfl rfl ?_
                  refine EV.getf fl_X7_41 dX7_year_109 hcm rfl ?_
                  refine EV.iload (i := 11) dX7_year_112 rfl ?_
                  refine EV.callSr (M' := mX7_has) (as := [.int (zI ((F.1 : Int))), .int (zI ((q : Int)))]) (rest := []) ml_X7_49 sm_X7_has co_X7_has dX7_year_114 (c_X7_has (d + 1) F.1 q (by omega) (by omega)) rfl rfl (Nat.le_of_ble_eq_true rfl) ?_
                  refine EV.ifeqB (t := 188) dX7_year_117 (by decide) (fun c117 => ?_) (fun c117 => ?_)
                  · skip
                    have hmf : yrM F ((75 * (yrS F s n).1 + 74) % 65537) n = false := by unfold yrM; rw [e1, e2, twI_f1 (Or.inr (Or.inl ((thI_n F hq6).trans c117)))]; rfl
                    have y1 : ((75 * (yrS F s n).1 + 74) % 65537) = (yrS F s (n + 1)).1 := by rw [yr_n hmf]
                    have y2 : ((yrS F s n).2.1 : Int) = ((yrS F s (n + 1)).2.1 : Int) := by rw [yr_n hmf]
                    have y3 : ((yrS F s n).2.2.1 : Int) = ((yrS F s (n + 1)).2.2.1 : Int) := by rw [yr_n hmf]
                    have y4 : yrl F s n = yrl F s (n + 1) := by unfold yrl; rw [yr_n hmf]
                    have y5 : (yrS F s n).2.2.2.2 = (yrS F s (n + 1)).2.2.2.2 := by rw [yr_n hmf]
                    refine EV.iinc (i := 9) (lv' := [some (.ref m), some (.int (zI (s))), some (.int (zI ((mm : Int)))), some (.int (zI (w))), some (.int (zI (((75 * (yrS F s n).1 + 74) % 65537)))), some (.int (zI (((yrS F s n).2.1 : Int)))), some (.int (zI (((yrS F s n).2.2.1 : Int)))), some (.int (zI (yrl F s n))), some (.int (zI ((yrS F s n).2.2.2.2))), some (.int (zI ((n : Int) + 1))), some (.int (zI ((p : Int)))), some (.int (zI ((q : Int))))]) dX7_year_188 rfl (by decide) rfl ?_
                    refine EV.goto (t := 53) dX7_year_191 (by decide) ?_
                    refine EV.drop 10 (lv' := [some (.ref m), some (.int (zI (s))), some (.int (zI ((mm : Int)))), some (.int (zI (w))), some (.int (zI (((75 * (yrS F s n).1 + 74) % 65537)))), some (.int (zI (((yrS F s n).2.1 : Int)))), some (.int (zI (((yrS F s n).2.2.1 : Int)))), some (.int (zI (yrl F s n))), some (.int (zI ((yrS F s n).2.2.2.2))), some (.int (zI (((n : Int) + 1)))), none, some (.int (zI ((q : Int))))]) rfl ?_
                    refine EV.drop 11 (lv' := [some (.ref m), some (.int (zI (s))), some (.int (zI ((mm : Int)))), some (.int (zI (w))), some (.int (zI (((75 * (yrS F s n).1 + 74) % 65537)))), some (.int (zI (((yrS F s n).2.1 : Int)))), some (.int (zI (((yrS F s n).2.2.1 : Int)))), some (.int (zI (yrl F s n))), some (.int (zI ((yrS F s n).2.2.2.2))), some (.int (zI (((n : Int) + 1)))), none, none]) rfl ?_
                    exact ih53 (n + 1) _ _ _ _ _ _ (by omega) (by omega) (y1) (y2) (y3) (y4) (y5) (rfl)
                  · skip
                    refine EV.aload_n (i := 0) dX7_year_120 rfl rfl ?_
                    refine EV.iload (i := 10) dX7_year_121 rfl ?_
                    refine EV.iload (i := 9) dX7_year_123 rfl ?_
                    refine EV.callVr (M' := mX7_dayOf) (as := [.int (zI ((p : Int))), .int (zI ((n : Int)))]) (rest := []) ml_X7_80 im_X7_dayOf se_X7_dayOf rfl co_X7_dayOf dX7_year_125 hcm (c_X7_dayOf (d + 1) hM hW p (n : Int) hp6 c105 (by omega)) rfl rfl (Nat.le_of_ble_eq_true rfl) ?_
                    have hrp := hW.dy hp6 c105 (n : Int)
                    refine EV.aload_n (i := 0) dX7_year_128 rfl rfl ?_
                    refine EV.iload (i := 11) dX7_year_129 rfl ?_
                    refine EV.iload (i := 9) dX7_year_131 rfl ?_
                    refine EV.callVr (M' := mX7_dayOf) (as := [.int (zI ((q : Int))), .int (zI ((n : Int)))]) (rest := [.int (zI (dy F p (n : Int)))]) ml_X7_80 im_X7_dayOf se_X7_dayOf rfl co_X7_dayOf dX7_year_133 hcm (c_X7_dayOf (d + 1) hM hW q (n : Int) hq6 c117 (by omega)) rfl rfl (Nat.le_of_ble_eq_true rfl) ?_
                    have hrq := hW.dy hq6 c117 (n : Int)
                    refine EV.icmp_ne (t := 188) dX7_year_136 (by decide) (by omega) (fun c136 => ?_) (fun c136 => ?_)
                    · skip
                      have hmf : yrM F ((75 * (yrS F s n).1 + 74) % 65537) n = false := by unfold yrM; rw [e1, e2, dn_y hp6 c105, dn_y hq6 c117, decide_eq_false c136, Bool.and_false]
                      have y1 : ((75 * (yrS F s n).1 + 74) % 65537) = (yrS F s (n + 1)).1 := by rw [yr_n hmf]
                      have y2 : ((yrS F s n).2.1 : Int) = ((yrS F s (n + 1)).2.1 : Int) := by rw [yr_n hmf]
                      have y3 : ((yrS F s n).2.2.1 : Int) = ((yrS F s (n + 1)).2.2.1 : Int) := by rw [yr_n hmf]
                      have y4 : yrl F s n = yrl F s (n + 1) := by unfold yrl; rw [yr_n hmf]
                      have y5 : (yrS F s n).2.2.2.2 = (yrS F s (n + 1)).2.2.2.2 := by rw [yr_n hmf]
                      refine EV.iinc (i := 9) (lv' := [some (.ref m), some (.int (zI (s))), some (.int (zI ((mm : Int)))), some (.int (zI (w))), some (.int (zI (((75 * (yrS F s n).1 + 74) % 65537)))), some (.int (zI (((yrS F s n).2.1 : Int)))), some (.int (zI (((yrS F s n).2.2.1 : Int)))), some (.int (zI (yrl F s n))), some (.int (zI ((yrS F s n).2.2.2.2))), some (.int (zI ((n : Int) + 1))), some (.int (zI ((p : Int)))), some (.int (zI ((q : Int))))]) dX7_year_188 rfl (by decide) rfl ?_
                      refine EV.goto (t := 53) dX7_year_191 (by decide) ?_
                      refine EV.drop 10 (lv' := [some (.ref m), some (.int (zI (s))), some (.int (zI ((mm : Int)))), some (.int (zI (w))), some (.int (zI (((75 * (yrS F s n).1 + 74) % 65537)))), some (.int (zI (((yrS F s n).2.1 : Int)))), some (.int (zI (((yrS F s n).2.2.1 : Int)))), some (.int (zI (yrl F s n))), some (.int (zI ((yrS F s n).2.2.2.2))), some (.int (zI (((n : Int) + 1)))), none, some (.int (zI ((q : Int))))]) rfl ?_
                      refine EV.drop 11 (lv' := [some (.ref m), some (.int (zI (s))), some (.int (zI ((mm : Int)))), some (.int (zI (w))), some (.int (zI (((75 * (yrS F s n).1 + 74) % 65537)))), some (.int (zI (((yrS F s n).2.1 : Int)))), some (.int (zI (((yrS F s n).2.2.1 : Int)))), some (.int (zI (yrl F s n))), some (.int (zI ((yrS F s n).2.2.2.2))), some (.int (zI (((n : Int) + 1)))), none, none]) rfl ?_
                      exact ih53 (n + 1) _ _ _ _ _ _ (by omega) (by omega) (y1) (y2) (y3) (y4) (y5) (rfl)
                    · skip
                      have hyy := yr_y (F := F) (s := s) (n := n) (by unfold yrM; rw [e1, e2, twI_t ((thI_n F hp6).trans c105) ((thI_n F hq6).trans c117) c93, dn_y hp6 c105, dn_y hq6 c117, decide_eq_true c136]; rfl)
                      rw [e1, dn_y hp6 c105] at hyy
                      refine EV.iinc (i := 5) (lv' := [some (.ref m), some (.int (zI (s))), some (.int (zI ((mm : Int)))), some (.int (zI (w))), some (.int (zI (((75 * (yrS F s n).1 + 74) % 65537)))), some (.int (zI (((yrS F s n).2.1 : Int) + 1))), some (.int (zI (((yrS F s n).2.2.1 : Int)))), some (.int (zI (yrl F s n))), some (.int (zI ((yrS F s n).2.2.2.2))), some (.int (zI ((n : Int)))), some (.int (zI ((p : Int)))), some (.int (zI ((q : Int))))]) dX7_year_139 rfl (by decide) rfl ?_
                      refine EV.iload (i := 6) dX7_year_142 rfl ?_
                      refine EV.iconst dX7_year_144 ?_
                      refine EV.aload_n (i := 0) dX7_year_145 rfl rfl ?_
                      refine EV.iload (i := 10) dX7_year_146 rfl ?_
                      refine EV.iload (i := 9) dX7_year_148 rfl ?_
                      refine EV.callVr (M' := mX7_dayOf) (as := [.int (zI ((p : Int))), .int (zI ((n : Int)))]) (rest := [.int (zI (1)), .int (zI (((yrS F s n).2.2.1 : Int)))]) ml_X7_80 im_X7_dayOf se_X7_dayOf rfl co_X7_dayOf dX7_year_150 hcm (c_X7_dayOf (d + 1) hM hW p (n : Int) hp6 c105 (by omega)) rfl rfl (Nat.le_of_ble_eq_true rfl) ?_
                      have hrp := hW.dy hp6 c105 (n : Int)
                      refine EV.top (y := zI ((((dy F p (n : Int)).toNat : Nat) : Int))) (by rw [Int.toNat_of_nonneg hrp.1]) ?_
                      refine EV.ishlW dX7_year_153 ?_
                      refine EV.iorW dX7_year_154 ?_
                      refine EV.top (y := zI ((((yrS F s n).2.2.1 ||| 2 ^ (dy F p (n : Int)).toNat : Nat) : Int))) (zI_orj (by omega)) ?_
                      refine EV.istore (i := 6) (lv' := [some (.ref m), some (.int (zI (s))), some (.int (zI ((mm : Int)))), some (.int (zI (w))), some (.int (zI (((75 * (yrS F s n).1 + 74) % 65537)))), some (.int (zI ((((yrS F s n).2.1 : Int) + 1)))), some (.int (zI ((((yrS F s n).2.2.1 ||| 2 ^ (dy F p (n : Int)).toNat : Nat) : Int)))), some (.int (zI (yrl F s n))), some (.int (zI ((yrS F s n).2.2.2.2))), some (.int (zI ((n : Int)))), some (.int (zI ((p : Int)))), some (.int (zI ((q : Int))))]) dX7_year_155 (by decide) rfl ?_
                      refine EV.iload (i := 7) dX7_year_157 rfl ?_
                      refine EV.iflt (t := 180) dX7_year_159 (by decide) (by omega) (fun c159 => ?_) (fun c159 => ?_)
                      · skip
                        refine EV.iload (i := 8) dX7_year_180 rfl ?_
                        refine EV.istore (i := 8) (lv' := [some (.ref m), some (.int (zI (s))), some (.int (zI ((mm : Int)))), some (.int (zI (w))), some (.int (zI (((75 * (yrS F s n).1 + 74) % 65537)))), some (.int (zI ((((yrS F s n).2.1 : Int) + 1)))), some (.int (zI ((((yrS F s n).2.2.1 ||| 2 ^ (dy F p (n : Int)).toNat : Nat) : Int)))), some (.int (zI (yrl F s n))), some (.int (zI ((yrS F s n).2.2.2.2))), some (.int (zI ((n : Int)))), some (.int (zI ((p : Int)))), some (.int (zI ((q : Int))))]) dX7_year_182 (by decide) rfl ?_
                        refine EV.iload (i := 9) dX7_year_184 rfl ?_
                        refine EV.istore (i := 7) (lv' := [some (.ref m), some (.int (zI (s))), some (.int (zI ((mm : Int)))), some (.int (zI (w))), some (.int (zI (((75 * (yrS F s n).1 + 74) % 65537)))), some (.int (zI ((((yrS F s n).2.1 : Int) + 1)))), some (.int (zI ((((yrS F s n).2.2.1 ||| 2 ^ (dy F p (n : Int)).toNat : Nat) : Int)))), some (.int (zI ((n : Int)))), some (.int (zI ((yrS F s n).2.2.2.2))), some (.int (zI ((n : Int)))), some (.int (zI ((p : Int)))), some (.int (zI ((q : Int))))]) dX7_year_186 (by decide) rfl ?_
                        have y1 : ((75 * (yrS F s n).1 + 74) % 65537) = (yrS F s (n + 1)).1 := by rw [hyy]
                        have y2 : ((yrS F s n).2.1 : Int) + 1 = ((yrS F s (n + 1)).2.1 : Int) := by rw [hyy]; rfl
                        have y3 : (((yrS F s n).2.2.1 ||| 2 ^ (dy F p (n : Int)).toNat : Nat) : Int) = ((yrS F s (n + 1)).2.2.1 : Int) := by rw [hyy]
                        have y4 : (n : Int) = yrl F s (n + 1) := by unfold yrl; rw [hyy]; exact (if_neg (Nat.succ_ne_zero _)).symm
                        have y5 : (yrS F s n).2.2.2.2 = (yrS F s (n + 1)).2.2.2.2 := by rw [hyy]; show _ = if (yrS F s n).2.1 = 0 then (0 : Int) else if (yrS F s n).2.2.2.2 < (n : Int) - (yrS F s n).2.2.2.1 then (n : Int) - (yrS F s n).2.2.2.1 else (yrS F s n).2.2.2.2; split <;> (try split) <;> omega
                        refine EV.iinc (i := 9) (lv' := [some (.ref m), some (.int (zI (s))), some (.int (zI ((mm : Int)))), some (.int (zI (w))), some (.int (zI (((75 * (yrS F s n).1 + 74) % 65537)))), some (.int (zI ((((yrS F s n).2.1 : Int) + 1)))), some (.int (zI ((((yrS F s n).2.2.1 ||| 2 ^ (dy F p (n : Int)).toNat : Nat) : Int)))), some (.int (zI ((n : Int)))), some (.int (zI ((yrS F s n).2.2.2.2))), some (.int (zI ((n : Int) + 1))), some (.int (zI ((p : Int)))), some (.int (zI ((q : Int))))]) dX7_year_188 rfl (by decide) rfl ?_
                        refine EV.goto (t := 53) dX7_year_191 (by decide) ?_
                        refine EV.drop 10 (lv' := [some (.ref m), some (.int (zI (s))), some (.int (zI ((mm : Int)))), some (.int (zI (w))), some (.int (zI (((75 * (yrS F s n).1 + 74) % 65537)))), some (.int (zI ((((yrS F s n).2.1 : Int) + 1)))), some (.int (zI ((((yrS F s n).2.2.1 ||| 2 ^ (dy F p (n : Int)).toNat : Nat) : Int)))), some (.int (zI ((n : Int)))), some (.int (zI ((yrS F s n).2.2.2.2))), some (.int (zI (((n : Int) + 1)))), none, some (.int (zI ((q : Int))))]) rfl ?_
                        refine EV.drop 11 (lv' := [some (.ref m), some (.int (zI (s))), some (.int (zI ((mm : Int)))), some (.int (zI (w))), some (.int (zI (((75 * (yrS F s n).1 + 74) % 65537)))), some (.int (zI ((((yrS F s n).2.1 : Int) + 1)))), some (.int (zI ((((yrS F s n).2.2.1 ||| 2 ^ (dy F p (n : Int)).toNat : Nat) : Int)))), some (.int (zI ((n : Int)))), some (.int (zI ((yrS F s n).2.2.2.2))), some (.int (zI (((n : Int) + 1)))), none, none]) rfl ?_
                        exact ih53 (n + 1) _ _ _ _ _ _ (by omega) (by omega) (y1) (y2) (y3) (y4) (y5) (rfl)
                      · skip
                        refine EV.iload (i := 9) dX7_year_162 rfl ?_
                        refine EV.iload (i := 7) dX7_year_164 rfl ?_
                        refine EV.isub dX7_year_166 ?_
                        refine EV.iload (i := 8) dX7_year_167 rfl ?_
                        refine EV.icmp_le (t := 180) dX7_year_169 (by decide) (by omega) (fun c169 => ?_) (fun c169 => ?_)
                        · skip
                          refine EV.iload (i := 8) dX7_year_180 rfl ?_
                          refine EV.istore (i := 8) (lv' := [some (.ref m), some (.int (zI (s))), some (.int (zI ((mm : Int)))), some (.int (zI (w))), some (.int (zI (((75 * (yrS F s n).1 + 74) % 65537)))), some (.int (zI ((((yrS F s n).2.1 : Int) + 1)))), some (.int (zI ((((yrS F s n).2.2.1 ||| 2 ^ (dy F p (n : Int)).toNat : Nat) : Int)))), some (.int (zI (yrl F s n))), some (.int (zI ((yrS F s n).2.2.2.2))), some (.int (zI ((n : Int)))), some (.int (zI ((p : Int)))), some (.int (zI ((q : Int))))]) dX7_year_182 (by decide) rfl ?_
                          refine EV.iload (i := 9) dX7_year_184 rfl ?_
                          refine EV.istore (i := 7) (lv' := [some (.ref m), some (.int (zI (s))), some (.int (zI ((mm : Int)))), some (.int (zI (w))), some (.int (zI (((75 * (yrS F s n).1 + 74) % 65537)))), some (.int (zI ((((yrS F s n).2.1 : Int) + 1)))), some (.int (zI ((((yrS F s n).2.2.1 ||| 2 ^ (dy F p (n : Int)).toNat : Nat) : Int)))), some (.int (zI ((n : Int)))), some (.int (zI ((yrS F s n).2.2.2.2))), some (.int (zI ((n : Int)))), some (.int (zI ((p : Int)))), some (.int (zI ((q : Int))))]) dX7_year_186 (by decide) rfl ?_
                          have y1 : ((75 * (yrS F s n).1 + 74) % 65537) = (yrS F s (n + 1)).1 := by rw [hyy]
                          have y2 : ((yrS F s n).2.1 : Int) + 1 = ((yrS F s (n + 1)).2.1 : Int) := by rw [hyy]; rfl
                          have y3 : (((yrS F s n).2.2.1 ||| 2 ^ (dy F p (n : Int)).toNat : Nat) : Int) = ((yrS F s (n + 1)).2.2.1 : Int) := by rw [hyy]
                          have y4 : (n : Int) = yrl F s (n + 1) := by unfold yrl; rw [hyy]; exact (if_neg (Nat.succ_ne_zero _)).symm
                          have y5 : (yrS F s n).2.2.2.2 = (yrS F s (n + 1)).2.2.2.2 := by rw [hyy]; show _ = if (yrS F s n).2.1 = 0 then (0 : Int) else if (yrS F s n).2.2.2.2 < (n : Int) - (yrS F s n).2.2.2.1 then (n : Int) - (yrS F s n).2.2.2.1 else (yrS F s n).2.2.2.2; split <;> (try split) <;> omega
                          refine EV.iinc (i := 9) (lv' := [some (.ref m), some (.int (zI (s))), some (.int (zI ((mm : Int)))), some (.int (zI (w))), some (.int (zI (((75 * (yrS F s n).1 + 74) % 65537)))), some (.int (zI ((((yrS F s n).2.1 : Int) + 1)))), some (.int (zI ((((yrS F s n).2.2.1 ||| 2 ^ (dy F p (n : Int)).toNat : Nat) : Int)))), some (.int (zI ((n : Int)))), some (.int (zI ((yrS F s n).2.2.2.2))), some (.int (zI ((n : Int) + 1))), some (.int (zI ((p : Int)))), some (.int (zI ((q : Int))))]) dX7_year_188 rfl (by decide) rfl ?_
                          refine EV.goto (t := 53) dX7_year_191 (by decide) ?_
                          refine EV.drop 10 (lv' := [some (.ref m), some (.int (zI (s))), some (.int (zI ((mm : Int)))), some (.int (zI (w))), some (.int (zI (((75 * (yrS F s n).1 + 74) % 65537)))), some (.int (zI ((((yrS F s n).2.1 : Int) + 1)))), some (.int (zI ((((yrS F s n).2.2.1 ||| 2 ^ (dy F p (n : Int)).toNat : Nat) : Int)))), some (.int (zI ((n : Int)))), some (.int (zI ((yrS F s n).2.2.2.2))), some (.int (zI (((n : Int) + 1)))), none, some (.int (zI ((q : Int))))]) rfl ?_
                          refine EV.drop 11 (lv' := [some (.ref m), some (.int (zI (s))), some (.int (zI ((mm : Int)))), some (.int (zI (w))), some (.int (zI (((75 * (yrS F s n).1 + 74) % 65537)))), some (.int (zI ((((yrS F s n).2.1 : Int) + 1)))), some (.int (zI ((((yrS F s n).2.2.1 ||| 2 ^ (dy F p (n : Int)).toNat : Nat) : Int)))), some (.int (zI ((n : Int)))), some (.int (zI ((yrS F s n).2.2.2.2))), some (.int (zI (((n : Int) + 1)))), none, none]) rfl ?_
                          exact ih53 (n + 1) _ _ _ _ _ _ (by omega) (by omega) (y1) (y2) (y3) (y4) (y5) (rfl)
                        · skip
                          refine EV.iload (i := 9) dX7_year_172 rfl ?_
                          refine EV.iload (i := 7) dX7_year_174 rfl ?_
                          refine EV.isub dX7_year_176 ?_
                          refine EV.goto (t := 182) dX7_year_177 (by decide) ?_
                          refine EV.istore (i := 8) (lv' := [some (.ref m), some (.int (zI (s))), some (.int (zI ((mm : Int)))), some (.int (zI (w))), some (.int (zI (((75 * (yrS F s n).1 + 74) % 65537)))), some (.int (zI ((((yrS F s n).2.1 : Int) + 1)))), some (.int (zI ((((yrS F s n).2.2.1 ||| 2 ^ (dy F p (n : Int)).toNat : Nat) : Int)))), some (.int (zI (yrl F s n))), some (.int (zI (((n : Int) - yrl F s n)))), some (.int (zI ((n : Int)))), some (.int (zI ((p : Int)))), some (.int (zI ((q : Int))))]) dX7_year_182 (by decide) rfl ?_
                          refine EV.iload (i := 9) dX7_year_184 rfl ?_
                          refine EV.istore (i := 7) (lv' := [some (.ref m), some (.int (zI (s))), some (.int (zI ((mm : Int)))), some (.int (zI (w))), some (.int (zI (((75 * (yrS F s n).1 + 74) % 65537)))), some (.int (zI ((((yrS F s n).2.1 : Int) + 1)))), some (.int (zI ((((yrS F s n).2.2.1 ||| 2 ^ (dy F p (n : Int)).toNat : Nat) : Int)))), some (.int (zI ((n : Int)))), some (.int (zI (((n : Int) - yrl F s n)))), some (.int (zI ((n : Int)))), some (.int (zI ((p : Int)))), some (.int (zI ((q : Int))))]) dX7_year_186 (by decide) rfl ?_
                          have y1 : ((75 * (yrS F s n).1 + 74) % 65537) = (yrS F s (n + 1)).1 := by rw [hyy]
                          have y2 : ((yrS F s n).2.1 : Int) + 1 = ((yrS F s (n + 1)).2.1 : Int) := by rw [hyy]; rfl
                          have y3 : (((yrS F s n).2.2.1 ||| 2 ^ (dy F p (n : Int)).toNat : Nat) : Int) = ((yrS F s (n + 1)).2.2.1 : Int) := by rw [hyy]
                          have y4 : (n : Int) = yrl F s (n + 1) := by unfold yrl; rw [hyy]; exact (if_neg (Nat.succ_ne_zero _)).symm
                          have y5 : (n : Int) - yrl F s n = (yrS F s (n + 1)).2.2.2.2 := by rw [hyy]; show _ = if (yrS F s n).2.1 = 0 then (0 : Int) else if (yrS F s n).2.2.2.2 < (n : Int) - (yrS F s n).2.2.2.1 then (n : Int) - (yrS F s n).2.2.2.1 else (yrS F s n).2.2.2.2; split <;> (try split) <;> omega
                          refine EV.iinc (i := 9) (lv' := [some (.ref m), some (.int (zI (s))), some (.int (zI ((mm : Int)))), some (.int (zI (w))), some (.int (zI (((75 * (yrS F s n).1 + 74) % 65537)))), some (.int (zI ((((yrS F s n).2.1 : Int) + 1)))), some (.int (zI ((((yrS F s n).2.2.1 ||| 2 ^ (dy F p (n : Int)).toNat : Nat) : Int)))), some (.int (zI ((n : Int)))), some (.int (zI (((n : Int) - yrl F s n)))), some (.int (zI ((n : Int) + 1))), some (.int (zI ((p : Int)))), some (.int (zI ((q : Int))))]) dX7_year_188 rfl (by decide) rfl ?_
                          refine EV.goto (t := 53) dX7_year_191 (by decide) ?_
                          refine EV.drop 10 (lv' := [some (.ref m), some (.int (zI (s))), some (.int (zI ((mm : Int)))), some (.int (zI (w))), some (.int (zI (((75 * (yrS F s n).1 + 74) % 65537)))), some (.int (zI ((((yrS F s n).2.1 : Int) + 1)))), some (.int (zI ((((yrS F s n).2.2.1 ||| 2 ^ (dy F p (n : Int)).toNat : Nat) : Int)))), some (.int (zI ((n : Int)))), some (.int (zI (((n : Int) - yrl F s n)))), some (.int (zI (((n : Int) + 1)))), none, some (.int (zI ((q : Int))))]) rfl ?_
                          refine EV.drop 11 (lv' := [some (.ref m), some (.int (zI (s))), some (.int (zI ((mm : Int)))), some (.int (zI (w))), some (.int (zI (((75 * (yrS F s n).1 + 74) % 65537)))), some (.int (zI ((((yrS F s n).2.1 : Int) + 1)))), some (.int (zI ((((yrS F s n).2.2.1 ||| 2 ^ (dy F p (n : Int)).toNat : Nat) : Int)))), some (.int (zI ((n : Int)))), some (.int (zI (((n : Int) - yrl F s n)))), some (.int (zI (((n : Int) + 1)))), none, none]) rfl ?_
                          exact ih53 (n + 1) _ _ _ _ _ _ (by omega) (by omega) (y1) (y2) (y3) (y4) (y5) (rfl)
        exact L53 _ 0 _ _ _ _ _ _ (by omega) (Nat.lt_succ_self _) (rfl) (rfl) (rfl) (rfl) (rfl) (rfl)
      · skip
        have c28r := of_nrg c28
        refine EV.bipush dX7_year_31 (by decide) ?_
        refine EV.iret rfl dX7_year_33 ?_
        exact rQ (by rw [yearR, if_neg (fun hh => by simp only [Bool.and_eq_true, rg, decide_eq_true_eq] at hh; omega)])
set_option maxHeartbeats 4000000 in
set_option maxRecDepth 20000 in
theorem c_X7_told (d : Nat) (hM : ModAt G h m A F P T K la im ik) (hW : WF F) (hK : WFK K) (hP : WFP P) (hT : WFT T) (z : Int) (hz : inR z) : CT G l mX7_told (d + 3) 0 0 [.ref m, .int (zI (z))] h (RQ h (toldR K F P T z)) := by
  refine CT.of (by decide) (Nat.le_of_ble_eq_true rfl) (List.forall_mem_cons.mpr ⟨rfl, List.forall_mem_cons.mpr ⟨rfl, fun _ h => absurd h List.not_mem_nil⟩⟩) ?_
  refine EV.lvs (lv' := [some (.ref m), some (.int (zI (z))), none, none]) rfl ?_
  have ⟨hcm, hc0, hc1, hc2, hc3, hc4, hc5, hc6, hc7, hc8, hc9⟩ := hM
  have hth := hW.1
  have hK6 := hK.1
  have hP6 := hP.1
  have hT6 := hT.1
  have hsf : ∀ q, q < 6 → F.1.testBit q = true → F.1.testBit q = true := fun _ _ z => z
  obtain ⟨td1, td2, td3⟩ := tdb z 1000 (by decide)
  obtain ⟨te1, te2, te3⟩ := tdb z 100 (by decide)
  have tm4 := tmb z 10 (by decide)
  obtain ⟨tf1, tf2, tf3⟩ := tdb z 10 (by decide)
  refine EV.iload_n (i := 1) dX7_told_0 rfl rfl ?_
  refine EV.sipush dX7_told_1 (by decide) ?_
  refine EV.icmp_lt (t := 59) dX7_told_4 (by decide) (by omega) (fun c4 => ?_) (fun c4 => ?_)
  · skip
    refine EV.iload_n (i := 1) dX7_told_59 rfl rfl ?_
    refine EV.bipush dX7_told_60 (by decide) ?_
    refine EV.icmp_lt (t := 113) dX7_told_62 (by decide) (by omega) (fun c62 => ?_) (fun c62 => ?_)
    · skip
      refine EV.iload_n (i := 1) dX7_told_113 rfl rfl ?_
      refine EV.bipush dX7_told_114 (by decide) ?_
      refine EV.irem dX7_told_116 (by omega) ?_
      refine EV.istore_n (i := 2) (lv' := [some (.ref m), some (.int (zI (z))), some (.int (zI ((Int.tmod z 10)))), none]) dX7_told_117 rfl (by decide) rfl ?_
      refine EV.iload_n (i := 1) dX7_told_118 rfl rfl ?_
      refine EV.bipush dX7_told_119 (by decide) ?_
      refine EV.bipush dX7_told_121 (by decide) ?_
      refine EV.callSr (M' := mX7_in) (as := [.int (zI (z)), .int (zI (10)), .int (zI (29))]) (rest := []) ml_X7_45 sm_X7_in co_X7_in dX7_told_123 (c_X7_in (d + 1) z 10 29 (by omega) (by omega) (by omega)) rfl rfl (Nat.le_of_ble_eq_true rfl) ?_
      refine EV.ifeqB (t := 164) dX7_told_126 (by decide) (fun c126 => ?_) (fun c126 => ?_)
      · skip
        have c126r := of_nrg c126
        refine EV.iload_n (i := 1) dX7_told_164 rfl rfl ?_
        rcases (show z = 0 ∨ z = 1 ∨ z = 2 ∨ (z < 0 ∨ 2 < z) by omega) with s165 | s165 | s165 | s165
        · skip
          refine EV.tabIn (x := z) (off := 27) (t := 192) dX7_told_165 (by omega) (by omega) (by rw [s165]; rfl) (by decide) ?_
          refine EV.aload_n (i := 0) dX7_told_192 rfl rfl ?_
          refine EV.getf fl_X7_53 dX7_told_193 hcm rfl ?_
          refine EV.iret rfl dX7_told_196 ?_
          exact rQ (by rw [toldR, if_pos s165])
        · skip
          refine EV.tabIn (x := z) (off := 32) (t := 197) dX7_told_165 (by omega) (by omega) (by rw [s165]; rfl) (by decide) ?_
          refine EV.aload_n (i := 0) dX7_told_197 rfl rfl ?_
          refine EV.getf fl_X7_41 dX7_told_198 hcm rfl ?_
          refine EV.iret rfl dX7_told_201 ?_
          exact rQ (by rw [toldR, if_neg (by omega), if_pos s165])
        · skip
          refine EV.tabIn (x := z) (off := 37) (t := 202) dX7_told_165 (by omega) (by omega) (by rw [s165]; rfl) (by decide) ?_
          refine EV.aload_n (i := 0) dX7_told_202 rfl rfl ?_
          refine EV.getf fl_X7_74 dX7_told_203 hcm rfl ?_
          refine EV.iret rfl dX7_told_206 ?_
          exact rQ (by rw [toldR, if_neg (by omega), if_neg (by omega), if_pos s165])
        · skip
          refine EV.tabOut (x := z) (t := 207) dX7_told_165 (by omega) s165 (by decide) ?_
          refine EV.iload_n (i := 1) dX7_told_207 rfl rfl ?_
          refine EV.iconst dX7_told_208 ?_
          refine EV.icmp_ne (t := 219) dX7_told_209 (by decide) (by omega) (fun c209 => ?_) (fun c209 => ?_)
          · skip
            refine EV.bipush dX7_told_219 (by decide) ?_
            refine EV.iret rfl dX7_told_221 ?_
            exact rQ (by rw [toldR_p (by omega) (by omega)]; exact (tp_6 (by omega) (by omega)).symm)
          · skip
            refine EV.aload_n (i := 0) dX7_told_212 rfl rfl ?_
            refine EV.getf fl_X7_128 dX7_told_213 hcm rfl ?_
            refine EV.goto (t := 221) dX7_told_216 (by decide) ?_
            refine EV.iret rfl dX7_told_221 ?_
            exact rQ (by rw [toldR, if_neg (by omega), if_neg (by omega), if_neg (by omega), if_pos c209])
      · skip
        have c126r := of_rg c126
        refine EV.aload_n (i := 0) dX7_told_129 rfl rfl ?_
        refine EV.iload_n (i := 2) dX7_told_130 rfl rfl ?_
        refine EV.callVr (M' := mX7_isThere) (as := [.int (zI ((Int.tmod z 10)))]) (rest := []) ml_X7_67 im_X7_isThere se_X7_isThere rfl co_X7_isThere dX7_told_131 hcm (c_X7_isThere (d + 0) hM hW (Int.tmod z 10) (by omega)) rfl rfl (Nat.le_of_ble_eq_true rfl) ?_
        refine EV.ifneB (t := 142) dX7_told_134 (by decide) (fun c134 => ?_) (fun c134 => ?_)
        · skip
          obtain ⟨p, hp, he, hbp⟩ := thI_p c134
          refine EV.lvs (lv' := [some (.ref m), some (.int (zI (z))), some (.int (zI ((p : Int)))), none]) (by rw [he]) ?_
          obtain ⟨hwb, hws, hwo⟩ := hW.2 p hp hbp
          have e1 : z % 10 = (p : Int) := by omega
          refine EV.iload_n (i := 1) dX7_told_142 rfl rfl ?_
          refine EV.bipush dX7_told_143 (by decide) ?_
          refine EV.icmp_ge (t := 157) dX7_told_145 (by decide) (by omega) (fun c145 => ?_) (fun c145 => ?_)
          · skip
            refine EV.aload_n (i := 0) dX7_told_157 rfl rfl ?_
            refine EV.getf fl_X7_13 dX7_told_158 hcm rfl ?_
            refine EV.iload_n (i := 2) dX7_told_161 rfl rfl ?_
            refine EV.iald dX7_told_162 hc1 (p) (rfl) (by omega) ?_
            refine EV.iret rfl dX7_told_163 ?_
            exact rQ (by rw [toldR_p (by omega) (by omega)]; exact (tp_2 hp hbp (by omega)).symm)
          · skip
            refine EV.aload_n (i := 0) dX7_told_148 rfl rfl ?_
            refine EV.getf fl_X7_16 dX7_told_149 hcm rfl ?_
            refine EV.iload_n (i := 2) dX7_told_152 rfl rfl ?_
            refine EV.iald dX7_told_153 hc2 (p) (rfl) (by omega) ?_
            refine EV.goto (t := 163) dX7_told_154 (by decide) ?_
            refine EV.iret rfl dX7_told_163 ?_
            exact rQ (by rw [toldR_p (by omega) (by omega)]; exact (tp_1 hp hbp (by omega)).symm)
        · skip
          refine EV.bipush dX7_told_137 (by decide) ?_
          refine EV.goto (t := 163) dX7_told_139 (by decide) ?_
          refine EV.iret rfl dX7_told_163 ?_
          exact rQ (by rw [toldR_p (by omega) (by omega)]; exact (tp_7 (by omega) (by rw [← tf3 (by omega)]; exact c134)).symm)
    · skip
      refine EV.iload_n (i := 1) dX7_told_65 rfl rfl ?_
      refine EV.bipush dX7_told_66 (by decide) ?_
      refine EV.idiv dX7_told_68 (by omega) ?_
      refine EV.iconst dX7_told_69 ?_
      refine EV.isub dX7_told_70 ?_
      refine EV.istore_n (i := 2) (lv' := [some (.ref m), some (.int (zI (z))), some (.int (zI (((Int.tdiv z 100) - 1)))), none]) dX7_told_71 rfl (by decide) rfl ?_
      refine EV.aload_n (i := 0) dX7_told_72 rfl rfl ?_
      refine EV.iload_n (i := 2) dX7_told_73 rfl rfl ?_
      refine EV.callVr (M' := mX7_isThere) (as := [.int (zI (((Int.tdiv z 100) - 1)))]) (rest := []) ml_X7_67 im_X7_isThere se_X7_isThere rfl co_X7_isThere dX7_told_74 hcm (c_X7_isThere (d + 0) hM hW ((Int.tdiv z 100) - 1) (by omega)) rfl rfl (Nat.le_of_ble_eq_true rfl) ?_
      refine EV.ifeqB (t := 110) dX7_told_77 (by decide) (fun c77 => ?_) (fun c77 => ?_)
      · skip
        refine EV.bipush dX7_told_110 (by decide) ?_
        refine EV.iret rfl dX7_told_112 ?_
        exact rQ (by rw [toldR_p (by omega) (by omega)]; exact (tp_5 (by omega) (fun h1 => by rw [show z / 100 - 1 = z.tdiv 100 - 1 by omega, c77] at h1; exact absurd h1 (by decide))).symm)
      · skip
        obtain ⟨p, hp, he, hbp⟩ := thI_p c77
        refine EV.lvs (lv' := [some (.ref m), some (.int (zI (z))), some (.int (zI ((p : Int)))), none]) (by rw [he]) ?_
        obtain ⟨hwb, hws, hwo⟩ := hW.2 p hp hbp
        have e1 : z / 100 - 1 = (p : Int) := by omega
        obtain ⟨k, hk⟩ : ∃ k : Nat, z.tmod 100 = (k : Int) := ⟨(z.tmod 100).toNat, by omega⟩
        have hk2 : z % 100 = (k : Int) := by omega
        refine EV.iload_n (i := 1) dX7_told_80 rfl rfl ?_
        refine EV.bipush dX7_told_81 (by decide) ?_
        refine EV.irem dX7_told_83 (by omega) ?_
        refine EV.aload_n (i := 0) dX7_told_84 rfl rfl ?_
        refine EV.getf fl_X7_13 dX7_told_85 hcm rfl ?_
        refine EV.iload_n (i := 2) dX7_told_88 rfl rfl ?_
        refine EV.iald dX7_told_89 hc1 (p) (rfl) (by omega) ?_
        refine EV.icmp_ge (t := 110) dX7_told_90 (by decide) (by omega) (fun c90 => ?_) (fun c90 => ?_)
        · skip
          refine EV.bipush dX7_told_110 (by decide) ?_
          refine EV.iret rfl dX7_told_112 ?_
          exact rQ (by rw [toldR_p (by omega) (by omega)]; exact (tp_5 (by omega) (fun h1 => by rw [e1, Int.toNat_natCast]; omega)).symm)
        · skip
          refine EV.aload_n (i := 0) dX7_told_93 rfl rfl ?_
          refine EV.getf fl_X7_7 dX7_told_94 hcm rfl ?_
          refine EV.bipush dX7_told_97 (by decide) ?_
          refine EV.iload_n (i := 2) dX7_told_99 rfl rfl ?_
          refine EV.imul dX7_told_100 ?_
          refine EV.iload_n (i := 1) dX7_told_101 rfl rfl ?_
          refine EV.bipush dX7_told_102 (by decide) ?_
          refine EV.irem dX7_told_104 (by omega) ?_
          refine EV.iadd dX7_told_105 ?_
          refine EV.iald dX7_told_106 hc0 (8 * p + k) (by omega) (by omega) ?_
          refine EV.goto (t := 112) dX7_told_107 (by decide) ?_
          refine EV.iret rfl dX7_told_112 ?_
          exact rQ (by rw [toldR_p (by omega) (by omega)]; exact (tp_3 hp hbp (by omega) (by omega) (by omega)).symm)
  · skip
    refine EV.iload_n (i := 1) dX7_told_7 rfl rfl ?_
    refine EV.sipush dX7_told_8 (by decide) ?_
    refine EV.idiv dX7_told_11 (by omega) ?_
    refine EV.iconst dX7_told_12 ?_
    refine EV.isub dX7_told_13 ?_
    refine EV.istore_n (i := 2) (lv' := [some (.ref m), some (.int (zI (z))), some (.int (zI (((Int.tdiv z 1000) - 1)))), none]) dX7_told_14 rfl (by decide) rfl ?_
    refine EV.iload_n (i := 1) dX7_told_15 rfl rfl ?_
    refine EV.sipush dX7_told_16 (by decide) ?_
    refine EV.irem dX7_told_19 (by omega) ?_
    refine EV.istore_n (i := 3) (lv' := [some (.ref m), some (.int (zI (z))), some (.int (zI (((Int.tdiv z 1000) - 1)))), some (.int (zI ((Int.tmod z 1000))))]) dX7_told_20 rfl (by decide) rfl ?_
    refine EV.aload_n (i := 0) dX7_told_21 rfl rfl ?_
    refine EV.iload_n (i := 2) dX7_told_22 rfl rfl ?_
    refine EV.callVr (M' := mX7_isWork) (as := [.int (zI (((Int.tdiv z 1000) - 1)))]) (rest := []) ml_X7_97 im_X7_isWork se_X7_isWork rfl co_X7_isWork dX7_told_23 hcm (c_X7_isWork (d + 0) hM hW ((Int.tdiv z 1000) - 1) (by omega) hP) rfl rfl (Nat.le_of_ble_eq_true rfl) ?_
    refine EV.ifeqB (t := 34) dX7_told_26 (by decide) (fun c26 => ?_) (fun c26 => ?_)
    · skip
      have c26r := of_nrg c26
      refine EV.bipush dX7_told_34 (by decide) ?_
      refine EV.goto (t := 58) dX7_told_36 (by decide) ?_
      refine EV.iret rfl dX7_told_58 ?_
      exact rQ (by rw [toldR_w (by omega), toldW, if_neg (fun hh => by simp only [Bool.and_eq_true, rg, decide_eq_true_eq] at hh; omega)])
    · skip
      have c26r := of_rg c26
      refine EV.iload_n (i := 3) dX7_told_29 rfl rfl ?_
      refine EV.iconst dX7_told_30 ?_
      refine EV.icmp_le (t := 39) dX7_told_31 (by decide) (by omega) (fun c31 => ?_) (fun c31 => ?_)
      · skip
        obtain ⟨v, hv⟩ : ∃ v : Nat, z.tdiv 1000 - 1 = (v : Int) := ⟨(z.tdiv 1000 - 1).toNat, by omega⟩
        refine EV.lvs (lv' := [some (.ref m), some (.int (zI (z))), some (.int (zI ((v : Int)))), some (.int (zI ((Int.tmod z 1000))))]) (by rw [hv]) ?_
        have e1 : z / 1000 - 1 = (v : Int) := by omega
        have hv6 : v < 6 := by omega
        refine EV.iload_n (i := 3) dX7_told_39 rfl rfl ?_
        refine EV.ifne (t := 52) dX7_told_40 (by decide) (by omega) (fun c40 => ?_) (fun c40 => ?_)
        · skip
          refine EV.aload_n (i := 0) dX7_told_52 rfl rfl ?_
          refine EV.getf fl_X7_22 dX7_told_53 hcm rfl ?_
          refine EV.iload_n (i := 2) dX7_told_56 rfl rfl ?_
          refine EV.iald dX7_told_57 hc4 (v) (rfl) (by omega) ?_
          refine EV.top (y := zI ((P.2.2 v : Int))) (rfl) ?_
          refine EV.iret rfl dX7_told_58 ?_
          exact rQ (by rw [toldR_w (by omega), toldW, if_pos (by rw [e1, rg_t (by omega), rg_t (by omega)]; rfl), if_neg (by omega), e1, Int.toNat_natCast])
        · skip
          refine EV.aload_n (i := 0) dX7_told_43 rfl rfl ?_
          refine EV.getf fl_X7_19 dX7_told_44 hcm rfl ?_
          refine EV.iload_n (i := 2) dX7_told_47 rfl rfl ?_
          refine EV.iald dX7_told_48 hc3 (v) (rfl) (by omega) ?_
          refine EV.goto (t := 58) dX7_told_49 (by decide) ?_
          refine EV.iret rfl dX7_told_58 ?_
          exact rQ (by rw [toldR_w (by omega), toldW, if_pos (by rw [e1, rg_t (by omega), rg_t (by omega)]; rfl), if_pos (by omega), e1, Int.toNat_natCast])
      · skip
        refine EV.bipush dX7_told_34 (by decide) ?_
        refine EV.goto (t := 58) dX7_told_36 (by decide) ?_
        refine EV.iret rfl dX7_told_58 ?_
        exact rQ (by rw [toldR_w (by omega), toldW, if_neg (fun hh => by simp only [Bool.and_eq_true, rg, decide_eq_true_eq] at hh; omega)])
end
