def wdF2 (o : Option (Int × Int)) : Int := match o with | none => 1000000 | some x => x.1
theorem wd2_y {F : FK} {p q n : Nat} {c : Int} (h : wcost F p q n = some c) (h2 : c < wdF2 (wdS F p q n)) : wdF2 (wdS F p q (n + 1)) = c ∧ wdW (wdS F p q (n + 1)) = (n : Int) := by
  cases hx : wdS F p q n with
  | none => rw [wdS_0 h hx]; exact ⟨rfl, rfl⟩
  | some x =>
    rw [hx] at h2
    have h3 : c < x.1 := h2
    rw [wdS_x h hx, if_pos h3]; exact ⟨rfl, rfl⟩
theorem wd2_n {F : FK} {p q n : Nat} {c : Int} (h : wcost F p q n = some c) (hc : c ≤ 56) (h2 : wdF2 (wdS F p q n) ≤ c) : wdS F p q n = wdS F p q (n + 1) := by
  cases hx : wdS F p q n with
  | none => rw [hx] at h2; have : (1000000 : Int) ≤ c := h2; omega
  | some x =>
    rw [hx] at h2
    have : x.1 ≤ c := h2
    rw [wdS_x h hx, if_neg (by omega)]
theorem wd2_in (F : FK) (p q n : Nat) : 0 ≤ wdF2 (wdS F p q n) ∧ wdF2 (wdS F p q n) ≤ 1000000 := by
  rcases wd_in F p q n with ⟨h, _⟩ | ⟨x, hx, h1, _⟩
  · rw [h]; exact ⟨by decide, by decide⟩
  · rw [hx] at h1 ⊢
    have h2 : 0 ≤ x.1 ∧ x.1 ≤ 56 := h1
    show 0 ≤ x.1 ∧ x.1 ≤ 1000000
    omega
theorem wd1_n {F : FK} {p q : Nat} (h : (shr F p q 28 : Int) < 4) : wdS F p q 1 = none := by
  rw [wdS_n (n := 0)]; rfl
  unfold wcost; rw [if_pos rfl, if_neg (by omega)]
theorem wd1_y {F : FK} {p q : Nat} (h : 4 ≤ (shr F p q 28 : Int)) : wdS F p q 1 = some (0, 0) := by
  have : wcost F p q 0 = some 0 := by unfold wcost; rw [if_pos rfl, if_pos (by omega)]
  exact wdS_0 (n := 0) this rfl
theorem wcn {F : FK} {p q n : Nat} (h0 : 3 ≤ n) (h : ∀ r, n = r + 10 → r < 6 → F.1.testBit r = true → r ≠ p → r ≠ q → False) : wcost F p q n = none := by
  unfold wcost
  rw [if_neg (by omega), if_neg (by omega), if_neg (by omega), if_neg]
  rintro ⟨a, b, c, d, e⟩
  exact h (n - 10) (by omega) e b c d
theorem wcr {F : FK} {p q r : Nat} (hr : r < 6) (hb : F.1.testBit r = true) (h1 : r ≠ p) (h2 : r ≠ q) : wcost F p q (10 + r) = some (cst F p r + cst F q r) := by
  unfold wcost
  rw [if_neg (by omega), if_neg (by omega), if_neg (by omega), Nat.add_sub_cancel_left, if_pos ⟨by omega, hb, h1, h2, hr⟩]
theorem wd_310 (F : FK) (p q : Nat) : wdS F p q 3 = wdS F p q 10 := by
  rw [wdS_n (n := 9) (wcn (by decide) (fun r h => by omega)), wdS_n (n := 8) (wcn (by decide) (fun r h => by omega)), wdS_n (n := 7) (wcn (by decide) (fun r h => by omega)), wdS_n (n := 6) (wcn (by decide) (fun r h => by omega)), wdS_n (n := 5) (wcn (by decide) (fun r h => by omega)), wdS_n (n := 4) (wcn (by decide) (fun r h => by omega)), wdS_n (n := 3) (wcn (by decide) (fun r h => by omega))]
theorem wd_s2 (F : FK) (p q : Nat) : wdS F p q 2 ≠ none := by
  have hc : wcost F p q 1 = some (cst F p q) := rfl
  cases hx : wdS F p q 1 with
  | none => rw [wdS_0 hc hx]; simp
  | some x => rw [wdS_x hc hx]; split <;> simp
theorem wd_sn (F : FK) (p q : Nat) : ∀ n, wdS F p q (n + 2) ≠ none
  | 0 => wd_s2 F p q
  | n + 1 => by
    have ih := wd_sn F p q n
    show wdS F p q ((n + 2) + 1) ≠ none
    cases hx : wdS F p q (n + 2) with
    | none => exact absurd hx ih
    | some x =>
      cases hc : wcost F p q (n + 2) with
      | none => rw [wdS_n hc, hx]; simp
      | some c => rw [wdS_x hc hx]; split <;> simp
theorem wd_f2 (F : FK) (p q : Nat) : wdF (wdS F p q 16) = wdF2 (wdS F p q (10 + 6)) := by
  have h := wd_sn F p q 14
  show wdF (wdS F p q 16) = wdF2 (wdS F p q 16)
  cases hx : wdS F p q 16 with
  | none => exact absurd hx h
  | some x => rfl
theorem tn_bd {w k : Nat} (hw : w < 14) (bi : Int) : tn (w : Int) (k : Int) = bd ((w % 7 : Nat) : Int) ((w / 7 : Nat) : Int) bi (bi + (k : Int)) := by
  unfold tn bd
  by_cases h : w < 7
  · rw [if_pos (by omega), if_pos (by omega)]; omega
  · rw [if_neg (by omega), if_neg (by omega)]; omega
section
variable {G : GG} {l : Launch}
variable {h : Hp} {m : Nat} {A : Nat → Nat} {F : FK} {P : PL} {T : ST} {K : PD} {la im ik : Nat → Int}
set_option maxHeartbeats 4000000 in
set_option maxRecDepth 20000 in
theorem c_X7_wedding (d : Nat) (hM : ModAt G h m A F P T K la im ik) (hW : WF F) (hK : WFK K) (hP : WFP P) (hT : WFT T) (z y w : Int) (hz : inR z) (hy : inR y) (hw : inR w) : CT G l mX7_wedding (d + 4) 0 0 [.ref m, .int (zI (z)), .int (zI (y)), .int (zI (w))] h (RQ h (wedR F z y w)) := by
  refine CT.of (by decide) (Nat.le_of_ble_eq_true rfl) (List.forall_mem_cons.mpr ⟨rfl, List.forall_mem_cons.mpr ⟨rfl, List.forall_mem_cons.mpr ⟨rfl, List.forall_mem_cons.mpr ⟨rfl, fun _ h => absurd h List.not_mem_nil⟩⟩⟩⟩) ?_
  refine EV.lvs (lv' := [some (.ref m), some (.int (zI (z))), some (.int (zI (y))), some (.int (zI (w))), none, none, none, none, none, none]) rfl ?_
  have ⟨hcm, hc0, hc1, hc2, hc3, hc4, hc5, hc6, hc7, hc8, hc9⟩ := hM
  have hth := hW.1
  have hK6 := hK.1
  have hP6 := hP.1
  have hT6 := hT.1
  have hsf : ∀ q, q < 6 → F.1.testBit q = true → F.1.testBit q = true := fun _ _ z => z
  refine EV.aload_n (i := 0) dX7_wedding_0 rfl rfl ?_
  refine EV.iload_n (i := 1) dX7_wedding_1 rfl rfl ?_
  refine EV.callVr (M' := mX7_isThere) (as := [.int (zI (z))]) (rest := []) ml_X7_67 im_X7_isThere se_X7_isThere rfl co_X7_isThere dX7_wedding_2 hcm (c_X7_isThere (d + 1) hM hW z (by omega)) rfl rfl (Nat.le_of_ble_eq_true rfl) ?_
  refine EV.ifeqB (t := 21) dX7_wedding_5 (by decide) (fun c5 => ?_) (fun c5 => ?_)
  · skip
    refine EV.iconst dX7_wedding_21 ?_
    refine EV.iret rfl dX7_wedding_22 ?_
    exact rQ (by rw [wedR, if_neg (by rw [twI_f1 (Or.inl c5)]; decide)])
  · skip
    refine EV.aload_n (i := 0) dX7_wedding_8 rfl rfl ?_
    refine EV.iload_n (i := 2) dX7_wedding_9 rfl rfl ?_
    refine EV.callVr (M' := mX7_isThere) (as := [.int (zI (y))]) (rest := []) ml_X7_67 im_X7_isThere se_X7_isThere rfl co_X7_isThere dX7_wedding_10 hcm (c_X7_isThere (d + 1) hM hW y (by omega)) rfl rfl (Nat.le_of_ble_eq_true rfl) ?_
    refine EV.ifeqB (t := 21) dX7_wedding_13 (by decide) (fun c13 => ?_) (fun c13 => ?_)
    · skip
      refine EV.iconst dX7_wedding_21 ?_
      refine EV.iret rfl dX7_wedding_22 ?_
      exact rQ (by rw [wedR, if_neg (by rw [twI_f1 (Or.inr (Or.inl c13))]; decide)])
    · skip
      refine EV.iload_n (i := 1) dX7_wedding_16 rfl rfl ?_
      refine EV.iload_n (i := 2) dX7_wedding_17 rfl rfl ?_
      refine EV.icmp_ne (t := 23) dX7_wedding_18 (by decide) (by omega) (fun c18 => ?_) (fun c18 => ?_)
      · skip
        obtain ⟨p, hp, rfl, hb⟩ := thI_p c5
        obtain ⟨q, hq, rfl, hbq⟩ := thI_p c13
        refine EV.iload_n (i := 3) dX7_wedding_23 rfl rfl ?_
        refine EV.iconst dX7_wedding_24 ?_
        refine EV.iconst dX7_wedding_25 ?_
        refine EV.callSr (M' := mX7_in) (as := [.int (zI (w)), .int (zI (0)), .int (zI (1))]) (rest := []) ml_X7_45 sm_X7_in co_X7_in dX7_wedding_26 (c_X7_in (d + 2) w 0 1 (by omega) (by omega) (by omega)) rfl rfl (Nat.le_of_ble_eq_true rfl) ?_
        refine EV.ifneB (t := 35) dX7_wedding_29 (by decide) (fun c29 => ?_) (fun c29 => ?_)
        · skip
          have c29r := of_rg c29
          refine EV.aload_n (i := 0) dX7_wedding_35 rfl rfl ?_
          refine EV.iload_n (i := 1) dX7_wedding_36 rfl rfl ?_
          refine EV.iload_n (i := 2) dX7_wedding_37 rfl rfl ?_
          refine EV.bipush dX7_wedding_38 (by decide) ?_
          refine EV.callVr (M' := mX7_sharedBy) (as := [.int (zI ((p : Int))), .int (zI ((q : Int))), .int (zI (28))]) (rest := []) ml_X7_94 im_X7_sharedBy se_X7_sharedBy rfl co_X7_sharedBy dX7_wedding_40 hcm (c_X7_sharedBy (d + 1) hM hW p q hp hq hb hbq 28 (by decide)) rfl rfl (Nat.le_of_ble_eq_true rfl) ?_
          have hsl := shr_le F p q 28
          refine EV.iconst dX7_wedding_43 ?_
          refine EV.icmp_lt (t := 51) dX7_wedding_44 (by decide) (by omega) (fun c44 => ?_) (fun c44 => ?_)
          · skip
            refine EV.ldc dX7_wedding_51 ct_X7_115 ?_
            refine EV.istore (i := 4) (lv' := [some (.ref m), some (.int (zI ((p : Int)))), some (.int (zI ((q : Int)))), some (.int (zI (w))), some (.int (zI (1000000))), none, none, none, none, none]) dX7_wedding_53 (by decide) rfl ?_
            have z1 := wd1_n c44
            refine EV.lvs (lv' := [some (.ref m), some (.int (zI ((p : Int)))), some (.int (zI ((q : Int)))), some (.int (zI (w))), some (.int (zI (wdF2 (wdS F p q 1)))), none, none, none, none, none]) (by rw [z1]; rfl) ?_
            have z2 : wdF2 (wdS F p q 1) = 1000000 := by rw [z1]; rfl
            refine EV.iload (i := 4) dX7_wedding_55 rfl ?_
            refine EV.ifne (t := 64) dX7_wedding_57 (by decide) (by omega) (fun c57 => ?_) (fun c57 => ?_)
            · skip
              refine EV.bipush dX7_wedding_64 (by decide) ?_
              refine EV.istore (i := 5) (lv' := [some (.ref m), some (.int (zI ((p : Int)))), some (.int (zI ((q : Int)))), some (.int (zI (w))), some (.int (zI (wdF2 (wdS F p q 1)))), some (.int (zI ((-6)))), none, none, none, none]) dX7_wedding_66 (by decide) rfl ?_
              refine EV.lvs (lv' := [some (.ref m), some (.int (zI ((p : Int)))), some (.int (zI ((q : Int)))), some (.int (zI (w))), some (.int (zI (wdF2 (wdS F p q 1)))), some (.int (zI (wdW (wdS F p q 1)))), none, none, none, none]) (by rw [z1]; rfl) ?_
              refine EV.aload_n (i := 0) dX7_wedding_68 rfl rfl ?_
              refine EV.iload_n (i := 1) dX7_wedding_69 rfl rfl ?_
              refine EV.iload_n (i := 2) dX7_wedding_70 rfl rfl ?_
              refine EV.callVr (M' := mX7_costOf) (as := [.int (zI ((p : Int))), .int (zI ((q : Int)))]) (rest := []) ml_X7_116 im_X7_costOf se_X7_costOf rfl co_X7_costOf dX7_wedding_71 hcm (c_X7_costOf (d + 0) hM hW p q hp hq hb hbq) rfl rfl (Nat.le_of_ble_eq_true rfl) ?_
              have hcipq := cst_in F p q
              refine EV.istore (i := 6) (lv' := [some (.ref m), some (.int (zI ((p : Int)))), some (.int (zI ((q : Int)))), some (.int (zI (w))), some (.int (zI (wdF2 (wdS F p q 1)))), some (.int (zI (wdW (wdS F p q 1)))), some (.int (zI (cst F p q))), none, none, none]) dX7_wedding_74 (by decide) rfl ?_
              refine EV.iload (i := 6) dX7_wedding_76 rfl ?_
              refine EV.iload (i := 4) dX7_wedding_78 rfl ?_
              refine EV.icmp_ge (t := 87) dX7_wedding_80 (by decide) (by omega) (fun c80 => ?_) (fun c80 => ?_)
              · skip
                refine EV.iload (i := 5) dX7_wedding_87 rfl ?_
                refine EV.istore (i := 5) (lv' := [some (.ref m), some (.int (zI ((p : Int)))), some (.int (zI ((q : Int)))), some (.int (zI (w))), some (.int (zI (wdF2 (wdS F p q 1)))), some (.int (zI (wdW (wdS F p q 1)))), some (.int (zI (cst F p q))), none, none, none]) dX7_wedding_89 (by decide) rfl ?_
                refine EV.iload (i := 6) dX7_wedding_91 rfl ?_
                refine EV.iload (i := 4) dX7_wedding_93 rfl ?_
                refine EV.icmp_ge (t := 103) dX7_wedding_95 (by decide) (by omega) (fun c95 => ?_) (fun c95 => ?_)
                · skip
                  refine EV.iload (i := 4) dX7_wedding_103 rfl ?_
                  refine EV.istore (i := 4) (lv' := [some (.ref m), some (.int (zI ((p : Int)))), some (.int (zI ((q : Int)))), some (.int (zI (w))), some (.int (zI (wdF2 (wdS F p q 1)))), some (.int (zI (wdW (wdS F p q 1)))), some (.int (zI (cst F p q))), none, none, none]) dX7_wedding_105 (by decide) rfl ?_
                  refine EV.lvs (lv' := [some (.ref m), some (.int (zI ((p : Int)))), some (.int (zI ((q : Int)))), some (.int (zI (w))), some (.int (zI (wdF2 (wdS F p q 2)))), some (.int (zI (wdW (wdS F p q 1)))), some (.int (zI (cst F p q))), none, none, none]) (by rw [← wd2_n (rfl : wcost F p q 1 = some (cst F p q)) (by omega) c80]) ?_
                  refine EV.lvs (lv' := [some (.ref m), some (.int (zI ((p : Int)))), some (.int (zI ((q : Int)))), some (.int (zI (w))), some (.int (zI (wdF2 (wdS F p q 2)))), some (.int (zI (wdW (wdS F p q 2)))), some (.int (zI (cst F p q))), none, none, none]) (by rw [← wd2_n (rfl : wcost F p q 1 = some (cst F p q)) (by omega) c80]) ?_
                  have hb3 := wd2_in F p q 2
                  refine EV.aload_n (i := 0) dX7_wedding_107 rfl rfl ?_
                  refine EV.iload_n (i := 2) dX7_wedding_108 rfl rfl ?_
                  refine EV.iload_n (i := 1) dX7_wedding_109 rfl rfl ?_
                  refine EV.callVr (M' := mX7_costOf) (as := [.int (zI ((q : Int))), .int (zI ((p : Int)))]) (rest := []) ml_X7_116 im_X7_costOf se_X7_costOf rfl co_X7_costOf dX7_wedding_110 hcm (c_X7_costOf (d + 0) hM hW q p hq hp hbq hb) rfl rfl (Nat.le_of_ble_eq_true rfl) ?_
                  have hciqp := cst_in F q p
                  refine EV.istore (i := 7) (lv' := [some (.ref m), some (.int (zI ((p : Int)))), some (.int (zI ((q : Int)))), some (.int (zI (w))), some (.int (zI (wdF2 (wdS F p q 2)))), some (.int (zI (wdW (wdS F p q 2)))), some (.int (zI (cst F p q))), some (.int (zI (cst F q p))), none, none]) dX7_wedding_113 (by decide) rfl ?_
                  refine EV.iload (i := 7) dX7_wedding_115 rfl ?_
                  refine EV.iload (i := 4) dX7_wedding_117 rfl ?_
                  refine EV.icmp_ge (t := 126) dX7_wedding_119 (by decide) (by omega) (fun c119 => ?_) (fun c119 => ?_)
                  · skip
                    refine EV.iload (i := 5) dX7_wedding_126 rfl ?_
                    refine EV.istore (i := 5) (lv' := [some (.ref m), some (.int (zI ((p : Int)))), some (.int (zI ((q : Int)))), some (.int (zI (w))), some (.int (zI (wdF2 (wdS F p q 2)))), some (.int (zI (wdW (wdS F p q 2)))), some (.int (zI (cst F p q))), some (.int (zI (cst F q p))), none, none]) dX7_wedding_128 (by decide) rfl ?_
                    refine EV.iload (i := 7) dX7_wedding_130 rfl ?_
                    refine EV.iload (i := 4) dX7_wedding_132 rfl ?_
                    refine EV.icmp_ge (t := 142) dX7_wedding_134 (by decide) (by omega) (fun c134 => ?_) (fun c134 => ?_)
                    · skip
                      refine EV.iload (i := 4) dX7_wedding_142 rfl ?_
                      refine EV.istore (i := 4) (lv' := [some (.ref m), some (.int (zI ((p : Int)))), some (.int (zI ((q : Int)))), some (.int (zI (w))), some (.int (zI (wdF2 (wdS F p q 2)))), some (.int (zI (wdW (wdS F p q 2)))), some (.int (zI (cst F p q))), some (.int (zI (cst F q p))), none, none]) dX7_wedding_144 (by decide) rfl ?_
                      refine EV.lvs (lv' := [some (.ref m), some (.int (zI ((p : Int)))), some (.int (zI ((q : Int)))), some (.int (zI (w))), some (.int (zI (wdF2 (wdS F p q 3)))), some (.int (zI (wdW (wdS F p q 2)))), some (.int (zI (cst F p q))), some (.int (zI (cst F q p))), none, none]) (by rw [← wd2_n (rfl : wcost F p q 2 = some (cst F q p)) (by omega) c119]) ?_
                      refine EV.lvs (lv' := [some (.ref m), some (.int (zI ((p : Int)))), some (.int (zI ((q : Int)))), some (.int (zI (w))), some (.int (zI (wdF2 (wdS F p q 3)))), some (.int (zI (wdW (wdS F p q 3)))), some (.int (zI (cst F p q))), some (.int (zI (cst F q p))), none, none]) (by rw [← wd2_n (rfl : wcost F p q 2 = some (cst F q p)) (by omega) c119]) ?_
                      refine EV.iconst dX7_wedding_146 ?_
                      refine EV.istore (i := 8) (lv' := [some (.ref m), some (.int (zI ((p : Int)))), some (.int (zI ((q : Int)))), some (.int (zI (w))), some (.int (zI (wdF2 (wdS F p q 3)))), some (.int (zI (wdW (wdS F p q 3)))), some (.int (zI (cst F p q))), some (.int (zI (cst F q p))), some (.int (zI (0))), none]) dX7_wedding_147 (by decide) rfl ?_
                      have L149 : ∀ (n149 : Nat) (r : Nat) (x4 x5 x8 : Int), (r ≤ 6) → 6 - r < n149 → x4 = wdF2 (wdS F p q (10 + r)) → x5 = wdW (wdS F p q (10 + r)) → x8 = (r : Int) → EV G l mX7_wedding (d + 4) (RQ h (wedR F (p : Int) (q : Int) w)) 149 [some (.ref m), some (.int (zI ((p : Int)))), some (.int (zI ((q : Int)))), some (.int (zI (w))), some (.int (zI (x4))), some (.int (zI (x5))), some (.int (zI (cst F p q))), some (.int (zI (cst F q p))), some (.int (zI (x8))), none] [] h 0 0 := by
                        intro n149
                        induction n149 with
                        | zero => intro _ _ _ _ _ hm; exact absurd hm (Nat.not_lt_zero _)
                        | succ n149 ih149 =>
                          intro r x4 x5 x8 hr hm149 e4 e5 e8
                          subst e4 e5 e8
                          have hb4 := wd2_in F p q (10 + r)
                          refine EV.iload (i := 8) dX7_wedding_149 rfl ?_
                          refine EV.bipush dX7_wedding_151 (by decide) ?_
                          refine EV.icmp_ge (t := 238) dX7_wedding_153 (by decide) (by omega) (fun c153 => ?_) (fun c153 => ?_)
                          · skip
                            obtain rfl : r = 6 := by omega
                            refine EV.iload_n (i := 3) dX7_wedding_238 rfl rfl ?_
                            refine EV.ifne (t := 247) dX7_wedding_239 (by decide) (by omega) (fun c239 => ?_) (fun c239 => ?_)
                            · skip
                              refine EV.iload (i := 5) dX7_wedding_247 rfl ?_
                              refine EV.iret rfl dX7_wedding_249 ?_
                              exact rQ (by rw [wedR_c (twI_t c5 c13 c18) c29, if_neg c239]; rfl)
                            · skip
                              refine EV.iload (i := 4) dX7_wedding_242 rfl ?_
                              refine EV.goto (t := 249) dX7_wedding_244 (by decide) ?_
                              refine EV.iret rfl dX7_wedding_249 ?_
                              exact rQ (by rw [wedR_c (twI_t c5 c13 c18) c29, if_pos c239, Int.toNat_natCast, Int.toNat_natCast, wd_f2])
                          · skip
                            refine EV.aload_n (i := 0) dX7_wedding_156 rfl rfl ?_
                            refine EV.getf fl_X7_41 dX7_wedding_157 hcm rfl ?_
                            refine EV.iload (i := 8) dX7_wedding_160 rfl ?_
                            refine EV.callSr (M' := mX7_has) (as := [.int (zI ((F.1 : Int))), .int (zI ((r : Int)))]) (rest := []) ml_X7_49 sm_X7_has co_X7_has dX7_wedding_162 (c_X7_has (d + 2) F.1 r (by omega) (by omega)) rfl rfl (Nat.le_of_ble_eq_true rfl) ?_
                            refine EV.ifeqB (t := 232) dX7_wedding_165 (by decide) (fun c165 => ?_) (fun c165 => ?_)
                            · skip
                              refine EV.iinc (i := 8) (lv' := [some (.ref m), some (.int (zI ((p : Int)))), some (.int (zI ((q : Int)))), some (.int (zI (w))), some (.int (zI (wdF2 (wdS F p q (10 + r))))), some (.int (zI (wdW (wdS F p q (10 + r))))), some (.int (zI (cst F p q))), some (.int (zI (cst F q p))), some (.int (zI ((r : Int) + 1))), none]) dX7_wedding_232 rfl (by decide) rfl ?_
                              refine EV.goto (t := 149) dX7_wedding_235 (by decide) ?_
                              exact ih149 (r + 1) _ _ _ (by omega) (by omega) (congrArg wdF2 (wdS_n (n := 10 + r) (wcn (by omega) (fun r' h1 _ h3 _ _ => by obtain rfl : r' = r := (by omega); rw [c165] at h3; exact absurd h3 (by decide)))).symm) (congrArg wdW (wdS_n (n := 10 + r) (wcn (by omega) (fun r' h1 _ h3 _ _ => by obtain rfl : r' = r := (by omega); rw [c165] at h3; exact absurd h3 (by decide)))).symm) (rfl)
                            · skip
                              refine EV.iload (i := 8) dX7_wedding_168 rfl ?_
                              refine EV.iload_n (i := 1) dX7_wedding_170 rfl rfl ?_
                              refine EV.icmp_eq (t := 232) dX7_wedding_171 (by decide) (by omega) (fun c171 => ?_) (fun c171 => ?_)
                              · skip
                                refine EV.iinc (i := 8) (lv' := [some (.ref m), some (.int (zI ((p : Int)))), some (.int (zI ((q : Int)))), some (.int (zI (w))), some (.int (zI (wdF2 (wdS F p q (10 + r))))), some (.int (zI (wdW (wdS F p q (10 + r))))), some (.int (zI (cst F p q))), some (.int (zI (cst F q p))), some (.int (zI ((r : Int) + 1))), none]) dX7_wedding_232 rfl (by decide) rfl ?_
                                refine EV.goto (t := 149) dX7_wedding_235 (by decide) ?_
                                exact ih149 (r + 1) _ _ _ (by omega) (by omega) (congrArg wdF2 (wdS_n (n := 10 + r) (wcn (by omega) (fun r' h1 _ _ h4 _ => h4 (by omega)))).symm) (congrArg wdW (wdS_n (n := 10 + r) (wcn (by omega) (fun r' h1 _ _ h4 _ => h4 (by omega)))).symm) (rfl)
                              · skip
                                refine EV.iload (i := 8) dX7_wedding_174 rfl ?_
                                refine EV.iload_n (i := 2) dX7_wedding_176 rfl rfl ?_
                                refine EV.icmp_eq (t := 232) dX7_wedding_177 (by decide) (by omega) (fun c177 => ?_) (fun c177 => ?_)
                                · skip
                                  refine EV.iinc (i := 8) (lv' := [some (.ref m), some (.int (zI ((p : Int)))), some (.int (zI ((q : Int)))), some (.int (zI (w))), some (.int (zI (wdF2 (wdS F p q (10 + r))))), some (.int (zI (wdW (wdS F p q (10 + r))))), some (.int (zI (cst F p q))), some (.int (zI (cst F q p))), some (.int (zI ((r : Int) + 1))), none]) dX7_wedding_232 rfl (by decide) rfl ?_
                                  refine EV.goto (t := 149) dX7_wedding_235 (by decide) ?_
                                  exact ih149 (r + 1) _ _ _ (by omega) (by omega) (congrArg wdF2 (wdS_n (n := 10 + r) (wcn (by omega) (fun r' h1 _ _ _ h5 => h5 (by omega)))).symm) (congrArg wdW (wdS_n (n := 10 + r) (wcn (by omega) (fun r' h1 _ _ _ h5 => h5 (by omega)))).symm) (rfl)
                                · skip
                                  refine EV.aload_n (i := 0) dX7_wedding_180 rfl rfl ?_
                                  refine EV.iload_n (i := 1) dX7_wedding_181 rfl rfl ?_
                                  refine EV.iload (i := 8) dX7_wedding_182 rfl ?_
                                  refine EV.callVr (M' := mX7_costOf) (as := [.int (zI ((p : Int))), .int (zI ((r : Int)))]) (rest := []) ml_X7_116 im_X7_costOf se_X7_costOf rfl co_X7_costOf dX7_wedding_184 hcm (c_X7_costOf (d + 0) hM hW p r hp (by omega) hb c165) rfl rfl (Nat.le_of_ble_eq_true rfl) ?_
                                  have hcipr := cst_in F p r
                                  refine EV.aload_n (i := 0) dX7_wedding_187 rfl rfl ?_
                                  refine EV.iload_n (i := 2) dX7_wedding_188 rfl rfl ?_
                                  refine EV.iload (i := 8) dX7_wedding_189 rfl ?_
                                  refine EV.callVr (M' := mX7_costOf) (as := [.int (zI ((q : Int))), .int (zI ((r : Int)))]) (rest := [.int (zI (cst F p r))]) ml_X7_116 im_X7_costOf se_X7_costOf rfl co_X7_costOf dX7_wedding_191 hcm (c_X7_costOf (d + 0) hM hW q r hq (by omega) hbq c165) rfl rfl (Nat.le_of_ble_eq_true rfl) ?_
                                  have hciqr := cst_in F q r
                                  refine EV.iadd dX7_wedding_194 ?_
                                  refine EV.istore (i := 9) (lv' := [some (.ref m), some (.int (zI ((p : Int)))), some (.int (zI ((q : Int)))), some (.int (zI (w))), some (.int (zI (wdF2 (wdS F p q (10 + r))))), some (.int (zI (wdW (wdS F p q (10 + r))))), some (.int (zI (cst F p q))), some (.int (zI (cst F q p))), some (.int (zI ((r : Int)))), some (.int (zI ((cst F p r + cst F q r))))]) dX7_wedding_195 (by decide) rfl ?_
                                  refine EV.iload (i := 9) dX7_wedding_197 rfl ?_
                                  refine EV.iload (i := 4) dX7_wedding_199 rfl ?_
                                  refine EV.icmp_ge (t := 212) dX7_wedding_201 (by decide) (by omega) (fun c201 => ?_) (fun c201 => ?_)
                                  · skip
                                    refine EV.iload (i := 5) dX7_wedding_212 rfl ?_
                                    refine EV.istore (i := 5) (lv' := [some (.ref m), some (.int (zI ((p : Int)))), some (.int (zI ((q : Int)))), some (.int (zI (w))), some (.int (zI (wdF2 (wdS F p q (10 + r))))), some (.int (zI (wdW (wdS F p q (10 + r))))), some (.int (zI (cst F p q))), some (.int (zI (cst F q p))), some (.int (zI ((r : Int)))), some (.int (zI ((cst F p r + cst F q r))))]) dX7_wedding_214 (by decide) rfl ?_
                                    refine EV.iload (i := 9) dX7_wedding_216 rfl ?_
                                    refine EV.iload (i := 4) dX7_wedding_218 rfl ?_
                                    refine EV.icmp_ge (t := 228) dX7_wedding_220 (by decide) (by omega) (fun c220 => ?_) (fun c220 => ?_)
                                    · skip
                                      refine EV.iload (i := 4) dX7_wedding_228 rfl ?_
                                      refine EV.istore (i := 4) (lv' := [some (.ref m), some (.int (zI ((p : Int)))), some (.int (zI ((q : Int)))), some (.int (zI (w))), some (.int (zI (wdF2 (wdS F p q (10 + r))))), some (.int (zI (wdW (wdS F p q (10 + r))))), some (.int (zI (cst F p q))), some (.int (zI (cst F q p))), some (.int (zI ((r : Int)))), some (.int (zI ((cst F p r + cst F q r))))]) dX7_wedding_230 (by decide) rfl ?_
                                      refine EV.iinc (i := 8) (lv' := [some (.ref m), some (.int (zI ((p : Int)))), some (.int (zI ((q : Int)))), some (.int (zI (w))), some (.int (zI (wdF2 (wdS F p q (10 + r))))), some (.int (zI (wdW (wdS F p q (10 + r))))), some (.int (zI (cst F p q))), some (.int (zI (cst F q p))), some (.int (zI ((r : Int) + 1))), some (.int (zI ((cst F p r + cst F q r))))]) dX7_wedding_232 rfl (by decide) rfl ?_
                                      refine EV.goto (t := 149) dX7_wedding_235 (by decide) ?_
                                      refine EV.drop 9 (lv' := [some (.ref m), some (.int (zI ((p : Int)))), some (.int (zI ((q : Int)))), some (.int (zI (w))), some (.int (zI (wdF2 (wdS F p q (10 + r))))), some (.int (zI (wdW (wdS F p q (10 + r))))), some (.int (zI (cst F p q))), some (.int (zI (cst F q p))), some (.int (zI (((r : Int) + 1)))), none]) rfl ?_
                                      exact ih149 (r + 1) _ _ _ (by omega) (by omega) (congrArg wdF2 (wd2_n (wcr (by omega) c165 (by omega) (by omega)) (by omega) c201)) (congrArg wdW (wd2_n (wcr (by omega) c165 (by omega) (by omega)) (by omega) c201)) (rfl)
                                    · skip
                                      omega
                                  · skip
                                    refine EV.bipush dX7_wedding_204 (by decide) ?_
                                    refine EV.iload (i := 8) dX7_wedding_206 rfl ?_
                                    refine EV.iadd dX7_wedding_208 ?_
                                    refine EV.goto (t := 214) dX7_wedding_209 (by decide) ?_
                                    refine EV.istore (i := 5) (lv' := [some (.ref m), some (.int (zI ((p : Int)))), some (.int (zI ((q : Int)))), some (.int (zI (w))), some (.int (zI (wdF2 (wdS F p q (10 + r))))), some (.int (zI ((10 + (r : Int))))), some (.int (zI (cst F p q))), some (.int (zI (cst F q p))), some (.int (zI ((r : Int)))), some (.int (zI ((cst F p r + cst F q r))))]) dX7_wedding_214 (by decide) rfl ?_
                                    refine EV.iload (i := 9) dX7_wedding_216 rfl ?_
                                    refine EV.iload (i := 4) dX7_wedding_218 rfl ?_
                                    refine EV.icmp_ge (t := 228) dX7_wedding_220 (by decide) (by omega) (fun c220 => ?_) (fun c220 => ?_)
                                    · skip
                                      omega
                                    · skip
                                      refine EV.iload (i := 9) dX7_wedding_223 rfl ?_
                                      refine EV.goto (t := 230) dX7_wedding_225 (by decide) ?_
                                      refine EV.istore (i := 4) (lv' := [some (.ref m), some (.int (zI ((p : Int)))), some (.int (zI ((q : Int)))), some (.int (zI (w))), some (.int (zI ((cst F p r + cst F q r)))), some (.int (zI ((10 + (r : Int))))), some (.int (zI (cst F p q))), some (.int (zI (cst F q p))), some (.int (zI ((r : Int)))), some (.int (zI ((cst F p r + cst F q r))))]) dX7_wedding_230 (by decide) rfl ?_
                                      refine EV.iinc (i := 8) (lv' := [some (.ref m), some (.int (zI ((p : Int)))), some (.int (zI ((q : Int)))), some (.int (zI (w))), some (.int (zI ((cst F p r + cst F q r)))), some (.int (zI ((10 + (r : Int))))), some (.int (zI (cst F p q))), some (.int (zI (cst F q p))), some (.int (zI ((r : Int) + 1))), some (.int (zI ((cst F p r + cst F q r))))]) dX7_wedding_232 rfl (by decide) rfl ?_
                                      refine EV.goto (t := 149) dX7_wedding_235 (by decide) ?_
                                      refine EV.drop 9 (lv' := [some (.ref m), some (.int (zI ((p : Int)))), some (.int (zI ((q : Int)))), some (.int (zI (w))), some (.int (zI ((cst F p r + cst F q r)))), some (.int (zI ((10 + (r : Int))))), some (.int (zI (cst F p q))), some (.int (zI (cst F q p))), some (.int (zI (((r : Int) + 1)))), none]) rfl ?_
                                      exact ih149 (r + 1) _ _ _ (by omega) (by omega) ((wd2_y (wcr (by omega) c165 (by omega) (by omega)) (by omega)).1.symm) ((wd2_y (wcr (by omega) c165 (by omega) (by omega)) (by omega)).2.symm) (rfl)
                      exact L149 _ 0 _ _ _ (by omega) (Nat.lt_succ_self _) (congrArg wdF2 (wd_310 F p q)) (congrArg wdW (wd_310 F p q)) (rfl)
                    · skip
                      omega
                  · skip
                    refine EV.iconst dX7_wedding_122 ?_
                    refine EV.goto (t := 128) dX7_wedding_123 (by decide) ?_
                    refine EV.istore (i := 5) (lv' := [some (.ref m), some (.int (zI ((p : Int)))), some (.int (zI ((q : Int)))), some (.int (zI (w))), some (.int (zI (wdF2 (wdS F p q 2)))), some (.int (zI (2))), some (.int (zI (cst F p q))), some (.int (zI (cst F q p))), none, none]) dX7_wedding_128 (by decide) rfl ?_
                    refine EV.iload (i := 7) dX7_wedding_130 rfl ?_
                    refine EV.iload (i := 4) dX7_wedding_132 rfl ?_
                    refine EV.icmp_ge (t := 142) dX7_wedding_134 (by decide) (by omega) (fun c134 => ?_) (fun c134 => ?_)
                    · skip
                      omega
                    · skip
                      refine EV.iload (i := 7) dX7_wedding_137 rfl ?_
                      refine EV.goto (t := 144) dX7_wedding_139 (by decide) ?_
                      refine EV.istore (i := 4) (lv' := [some (.ref m), some (.int (zI ((p : Int)))), some (.int (zI ((q : Int)))), some (.int (zI (w))), some (.int (zI (cst F q p))), some (.int (zI (2))), some (.int (zI (cst F p q))), some (.int (zI (cst F q p))), none, none]) dX7_wedding_144 (by decide) rfl ?_
                      have c119x : cst F q p < wdF2 (wdS F p q 2) := by omega
                      refine EV.lvs (lv' := [some (.ref m), some (.int (zI ((p : Int)))), some (.int (zI ((q : Int)))), some (.int (zI (w))), some (.int (zI (wdF2 (wdS F p q 3)))), some (.int (zI (2))), some (.int (zI (cst F p q))), some (.int (zI (cst F q p))), none, none]) (by rw [(wd2_y (rfl : wcost F p q 2 = some (cst F q p)) c119x).1]) ?_
                      refine EV.lvs (lv' := [some (.ref m), some (.int (zI ((p : Int)))), some (.int (zI ((q : Int)))), some (.int (zI (w))), some (.int (zI (wdF2 (wdS F p q 3)))), some (.int (zI (wdW (wdS F p q 3)))), some (.int (zI (cst F p q))), some (.int (zI (cst F q p))), none, none]) (by rw [(wd2_y (rfl : wcost F p q 2 = some (cst F q p)) c119x).2]; rfl) ?_
                      refine EV.iconst dX7_wedding_146 ?_
                      refine EV.istore (i := 8) (lv' := [some (.ref m), some (.int (zI ((p : Int)))), some (.int (zI ((q : Int)))), some (.int (zI (w))), some (.int (zI (wdF2 (wdS F p q 3)))), some (.int (zI (wdW (wdS F p q 3)))), some (.int (zI (cst F p q))), some (.int (zI (cst F q p))), some (.int (zI (0))), none]) dX7_wedding_147 (by decide) rfl ?_
                      have L149 : ∀ (n149 : Nat) (r : Nat) (x4 x5 x8 : Int), (r ≤ 6) → 6 - r < n149 → x4 = wdF2 (wdS F p q (10 + r)) → x5 = wdW (wdS F p q (10 + r)) → x8 = (r : Int) → EV G l mX7_wedding (d + 4) (RQ h (wedR F (p : Int) (q : Int) w)) 149 [some (.ref m), some (.int (zI ((p : Int)))), some (.int (zI ((q : Int)))), some (.int (zI (w))), some (.int (zI (x4))), some (.int (zI (x5))), some (.int (zI (cst F p q))), some (.int (zI (cst F q p))), some (.int (zI (x8))), none] [] h 0 0 := by
                        intro n149
                        induction n149 with
                        | zero => intro _ _ _ _ _ hm; exact absurd hm (Nat.not_lt_zero _)
                        | succ n149 ih149 =>
                          intro r x4 x5 x8 hr hm149 e4 e5 e8
                          subst e4 e5 e8
                          have hb4 := wd2_in F p q (10 + r)
                          refine EV.iload (i := 8) dX7_wedding_149 rfl ?_
                          refine EV.bipush dX7_wedding_151 (by decide) ?_
                          refine EV.icmp_ge (t := 238) dX7_wedding_153 (by decide) (by omega) (fun c153 => ?_) (fun c153 => ?_)
                          · skip
                            obtain rfl : r = 6 := by omega
                            refine EV.iload_n (i := 3) dX7_wedding_238 rfl rfl ?_
                            refine EV.ifne (t := 247) dX7_wedding_239 (by decide) (by omega) (fun c239 => ?_) (fun c239 => ?_)
                            · skip
                              refine EV.iload (i := 5) dX7_wedding_247 rfl ?_
                              refine EV.iret rfl dX7_wedding_249 ?_
                              exact rQ (by rw [wedR_c (twI_t c5 c13 c18) c29, if_neg c239]; rfl)
                            · skip
                              refine EV.iload (i := 4) dX7_wedding_242 rfl ?_
                              refine EV.goto (t := 249) dX7_wedding_244 (by decide) ?_
                              refine EV.iret rfl dX7_wedding_249 ?_
                              exact rQ (by rw [wedR_c (twI_t c5 c13 c18) c29, if_pos c239, Int.toNat_natCast, Int.toNat_natCast, wd_f2])
                          · skip
                            refine EV.aload_n (i := 0) dX7_wedding_156 rfl rfl ?_
                            refine EV.getf fl_X7_41 dX7_wedding_157 hcm rfl ?_
                            refine EV.iload (i := 8) dX7_wedding_160 rfl ?_
                            refine EV.callSr (M' := mX7_has) (as := [.int (zI ((F.1 : Int))), .int (zI ((r : Int)))]) (rest := []) ml_X7_49 sm_X7_has co_X7_has dX7_wedding_162 (c_X7_has (d + 2) F.1 r (by omega) (by omega)) rfl rfl (Nat.le_of_ble_eq_true rfl) ?_
                            refine EV.ifeqB (t := 232) dX7_wedding_165 (by decide) (fun c165 => ?_) (fun c165 => ?_)
                            · skip
                              refine EV.iinc (i := 8) (lv' := [some (.ref m), some (.int (zI ((p : Int)))), some (.int (zI ((q : Int)))), some (.int (zI (w))), some (.int (zI (wdF2 (wdS F p q (10 + r))))), some (.int (zI (wdW (wdS F p q (10 + r))))), some (.int (zI (cst F p q))), some (.int (zI (cst F q p))), some (.int (zI ((r : Int) + 1))), none]) dX7_wedding_232 rfl (by decide) rfl ?_
                              refine EV.goto (t := 149) dX7_wedding_235 (by decide) ?_
                              exact ih149 (r + 1) _ _ _ (by omega) (by omega) (congrArg wdF2 (wdS_n (n := 10 + r) (wcn (by omega) (fun r' h1 _ h3 _ _ => by obtain rfl : r' = r := (by omega); rw [c165] at h3; exact absurd h3 (by decide)))).symm) (congrArg wdW (wdS_n (n := 10 + r) (wcn (by omega) (fun r' h1 _ h3 _ _ => by obtain rfl : r' = r := (by omega); rw [c165] at h3; exact absurd h3 (by decide)))).symm) (rfl)
                            · skip
                              refine EV.iload (i := 8) dX7_wedding_168 rfl ?_
                              refine EV.iload_n (i := 1) dX7_wedding_170 rfl rfl ?_
                              refine EV.icmp_eq (t := 232) dX7_wedding_171 (by decide) (by omega) (fun c171 => ?_) (fun c171 => ?_)
                              · skip
                                refine EV.iinc (i := 8) (lv' := [some (.ref m), some (.int (zI ((p : Int)))), some (.int (zI ((q : Int)))), some (.int (zI (w))), some (.int (zI (wdF2 (wdS F p q (10 + r))))), some (.int (zI (wdW (wdS F p q (10 + r))))), some (.int (zI (cst F p q))), some (.int (zI (cst F q p))), some (.int (zI ((r : Int) + 1))), none]) dX7_wedding_232 rfl (by decide) rfl ?_
                                refine EV.goto (t := 149) dX7_wedding_235 (by decide) ?_
                                exact ih149 (r + 1) _ _ _ (by omega) (by omega) (congrArg wdF2 (wdS_n (n := 10 + r) (wcn (by omega) (fun r' h1 _ _ h4 _ => h4 (by omega)))).symm) (congrArg wdW (wdS_n (n := 10 + r) (wcn (by omega) (fun r' h1 _ _ h4 _ => h4 (by omega)))).symm) (rfl)
                              · skip
                                refine EV.iload (i := 8) dX7_wedding_174 rfl ?_
                                refine EV.iload_n (i := 2) dX7_wedding_176 rfl rfl ?_
                                refine EV.icmp_eq (t := 232) dX7_wedding_177 (by decide) (by omega) (fun c177 => ?_) (fun c177 => ?_)
                                · skip
                                  refine EV.iinc (i := 8) (lv' := [some (.ref m), some (.int (zI ((p : Int)))), some (.int (zI ((q : Int)))), some (.int (zI (w))), some (.int (zI (wdF2 (wdS F p q (10 + r))))), some (.int (zI (wdW (wdS F p q (10 + r))))), some (.int (zI (cst F p q))), some (.int (zI (cst F q p))), some (.int (zI ((r : Int) + 1))), none]) dX7_wedding_232 rfl (by decide) rfl ?_
                                  refine EV.goto (t := 149) dX7_wedding_235 (by decide) ?_
                                  exact ih149 (r + 1) _ _ _ (by omega) (by omega) (congrArg wdF2 (wdS_n (n := 10 + r) (wcn (by omega) (fun r' h1 _ _ _ h5 => h5 (by omega)))).symm) (congrArg wdW (wdS_n (n := 10 + r) (wcn (by omega) (fun r' h1 _ _ _ h5 => h5 (by omega)))).symm) (rfl)
                                · skip
                                  refine EV.aload_n (i := 0) dX7_wedding_180 rfl rfl ?_
                                  refine EV.iload_n (i := 1) dX7_wedding_181 rfl rfl ?_
                                  refine EV.iload (i := 8) dX7_wedding_182 rfl ?_
                                  refine EV.callVr (M' := mX7_costOf) (as := [.int (zI ((p : Int))), .int (zI ((r : Int)))]) (rest := []) ml_X7_116 im_X7_costOf se_X7_costOf rfl co_X7_costOf dX7_wedding_184 hcm (c_X7_costOf (d + 0) hM hW p r hp (by omega) hb c165) rfl rfl (Nat.le_of_ble_eq_true rfl) ?_
                                  have hcipr := cst_in F p r
                                  refine EV.aload_n (i := 0) dX7_wedding_187 rfl rfl ?_
                                  refine EV.iload_n (i := 2) dX7_wedding_188 rfl rfl ?_
                                  refine EV.iload (i := 8) dX7_wedding_189 rfl ?_
                                  refine EV.callVr (M' := mX7_costOf) (as := [.int (zI ((q : Int))), .int (zI ((r : Int)))]) (rest := [.int (zI (cst F p r))]) ml_X7_116 im_X7_costOf se_X7_costOf rfl co_X7_costOf dX7_wedding_191 hcm (c_X7_costOf (d + 0) hM hW q r hq (by omega) hbq c165) rfl rfl (Nat.le_of_ble_eq_true rfl) ?_
                                  have hciqr := cst_in F q r
                                  refine EV.iadd dX7_wedding_194 ?_
                                  refine EV.istore (i := 9) (lv' := [some (.ref m), some (.int (zI ((p : Int)))), some (.int (zI ((q : Int)))), some (.int (zI (w))), some (.int (zI (wdF2 (wdS F p q (10 + r))))), some (.int (zI (wdW (wdS F p q (10 + r))))), some (.int (zI (cst F p q))), some (.int (zI (cst F q p))), some (.int (zI ((r : Int)))), some (.int (zI ((cst F p r + cst F q r))))]) dX7_wedding_195 (by decide) rfl ?_
                                  refine EV.iload (i := 9) dX7_wedding_197 rfl ?_
                                  refine EV.iload (i := 4) dX7_wedding_199 rfl ?_
                                  refine EV.icmp_ge (t := 212) dX7_wedding_201 (by decide) (by omega) (fun c201 => ?_) (fun c201 => ?_)
                                  · skip
                                    refine EV.iload (i := 5) dX7_wedding_212 rfl ?_
                                    refine EV.istore (i := 5) (lv' := [some (.ref m), some (.int (zI ((p : Int)))), some (.int (zI ((q : Int)))), some (.int (zI (w))), some (.int (zI (wdF2 (wdS F p q (10 + r))))), some (.int (zI (wdW (wdS F p q (10 + r))))), some (.int (zI (cst F p q))), some (.int (zI (cst F q p))), some (.int (zI ((r : Int)))), some (.int (zI ((cst F p r + cst F q r))))]) dX7_wedding_214 (by decide) rfl ?_
                                    refine EV.iload (i := 9) dX7_wedding_216 rfl ?_
                                    refine EV.iload (i := 4) dX7_wedding_218 rfl ?_
                                    refine EV.icmp_ge (t := 228) dX7_wedding_220 (by decide) (by omega) (fun c220 => ?_) (fun c220 => ?_)
                                    · skip
                                      refine EV.iload (i := 4) dX7_wedding_228 rfl ?_
                                      refine EV.istore (i := 4) (lv' := [some (.ref m), some (.int (zI ((p : Int)))), some (.int (zI ((q : Int)))), some (.int (zI (w))), some (.int (zI (wdF2 (wdS F p q (10 + r))))), some (.int (zI (wdW (wdS F p q (10 + r))))), some (.int (zI (cst F p q))), some (.int (zI (cst F q p))), some (.int (zI ((r : Int)))), some (.int (zI ((cst F p r + cst F q r))))]) dX7_wedding_230 (by decide) rfl ?_
                                      refine EV.iinc (i := 8) (lv' := [some (.ref m), some (.int (zI ((p : Int)))), some (.int (zI ((q : Int)))), some (.int (zI (w))), some (.int (zI (wdF2 (wdS F p q (10 + r))))), some (.int (zI (wdW (wdS F p q (10 + r))))), some (.int (zI (cst F p q))), some (.int (zI (cst F q p))), some (.int (zI ((r : Int) + 1))), some (.int (zI ((cst F p r + cst F q r))))]) dX7_wedding_232 rfl (by decide) rfl ?_
                                      refine EV.goto (t := 149) dX7_wedding_235 (by decide) ?_
                                      refine EV.drop 9 (lv' := [some (.ref m), some (.int (zI ((p : Int)))), some (.int (zI ((q : Int)))), some (.int (zI (w))), some (.int (zI (wdF2 (wdS F p q (10 + r))))), some (.int (zI (wdW (wdS F p q (10 + r))))), some (.int (zI (cst F p q))), some (.int (zI (cst F q p))), some (.int (zI (((r : Int) + 1)))), none]) rfl ?_
                                      exact ih149 (r + 1) _ _ _ (by omega) (by omega) (congrArg wdF2 (wd2_n (wcr (by omega) c165 (by omega) (by omega)) (by omega) c201)) (congrArg wdW (wd2_n (wcr (by omega) c165 (by omega) (by omega)) (by omega) c201)) (rfl)
                                    · skip
                                      omega
                                  · skip
                                    refine EV.bipush dX7_wedding_204 (by decide) ?_
                                    refine EV.iload (i := 8) dX7_wedding_206 rfl ?_
                                    refine EV.iadd dX7_wedding_208 ?_
                                    refine EV.goto (t := 214) dX7_wedding_209 (by decide) ?_
                                    refine EV.istore (i := 5) (lv' := [some (.ref m), some (.int (zI ((p : Int)))), some (.int (zI ((q : Int)))), some (.int (zI (w))), some (.int (zI (wdF2 (wdS F p q (10 + r))))), some (.int (zI ((10 + (r : Int))))), some (.int (zI (cst F p q))), some (.int (zI (cst F q p))), some (.int (zI ((r : Int)))), some (.int (zI ((cst F p r + cst F q r))))]) dX7_wedding_214 (by decide) rfl ?_
                                    refine EV.iload (i := 9) dX7_wedding_216 rfl ?_
                                    refine EV.iload (i := 4) dX7_wedding_218 rfl ?_
                                    refine EV.icmp_ge (t := 228) dX7_wedding_220 (by decide) (by omega) (fun c220 => ?_) (fun c220 => ?_)
                                    · skip
                                      omega
                                    · skip
                                      refine EV.iload (i := 9) dX7_wedding_223 rfl ?_
                                      refine EV.goto (t := 230) dX7_wedding_225 (by decide) ?_
                                      refine EV.istore (i := 4) (lv' := [some (.ref m), some (.int (zI ((p : Int)))), some (.int (zI ((q : Int)))), some (.int (zI (w))), some (.int (zI ((cst F p r + cst F q r)))), some (.int (zI ((10 + (r : Int))))), some (.int (zI (cst F p q))), some (.int (zI (cst F q p))), some (.int (zI ((r : Int)))), some (.int (zI ((cst F p r + cst F q r))))]) dX7_wedding_230 (by decide) rfl ?_
                                      refine EV.iinc (i := 8) (lv' := [some (.ref m), some (.int (zI ((p : Int)))), some (.int (zI ((q : Int)))), some (.int (zI (w))), some (.int (zI ((cst F p r + cst F q r)))), some (.int (zI ((10 + (r : Int))))), some (.int (zI (cst F p q))), some (.int (zI (cst F q p))), some (.int (zI ((r : Int) + 1))), some (.int (zI ((cst F p r + cst F q r))))]) dX7_wedding_232 rfl (by decide) rfl ?_
                                      refine EV.goto (t := 149) dX7_wedding_235 (by decide) ?_
                                      refine EV.drop 9 (lv' := [some (.ref m), some (.int (zI ((p : Int)))), some (.int (zI ((q : Int)))), some (.int (zI (w))), some (.int (zI ((cst F p r + cst F q r)))), some (.int (zI ((10 + (r : Int))))), some (.int (zI (cst F p q))), some (.int (zI (cst F q p))), some (.int (zI (((r : Int) + 1)))), none]) rfl ?_
                                      exact ih149 (r + 1) _ _ _ (by omega) (by omega) ((wd2_y (wcr (by omega) c165 (by omega) (by omega)) (by omega)).1.symm) ((wd2_y (wcr (by omega) c165 (by omega) (by omega)) (by omega)).2.symm) (rfl)
                      exact L149 _ 0 _ _ _ (by omega) (Nat.lt_succ_self _) (congrArg wdF2 (wd_310 F p q)) (congrArg wdW (wd_310 F p q)) (rfl)
                · skip
                  omega
              · skip
                refine EV.iconst dX7_wedding_83 ?_
                refine EV.goto (t := 89) dX7_wedding_84 (by decide) ?_
                refine EV.istore (i := 5) (lv' := [some (.ref m), some (.int (zI ((p : Int)))), some (.int (zI ((q : Int)))), some (.int (zI (w))), some (.int (zI (wdF2 (wdS F p q 1)))), some (.int (zI (1))), some (.int (zI (cst F p q))), none, none, none]) dX7_wedding_89 (by decide) rfl ?_
                refine EV.iload (i := 6) dX7_wedding_91 rfl ?_
                refine EV.iload (i := 4) dX7_wedding_93 rfl ?_
                refine EV.icmp_ge (t := 103) dX7_wedding_95 (by decide) (by omega) (fun c95 => ?_) (fun c95 => ?_)
                · skip
                  omega
                · skip
                  refine EV.iload (i := 6) dX7_wedding_98 rfl ?_
                  refine EV.goto (t := 105) dX7_wedding_100 (by decide) ?_
                  refine EV.istore (i := 4) (lv' := [some (.ref m), some (.int (zI ((p : Int)))), some (.int (zI ((q : Int)))), some (.int (zI (w))), some (.int (zI (cst F p q))), some (.int (zI (1))), some (.int (zI (cst F p q))), none, none, none]) dX7_wedding_105 (by decide) rfl ?_
                  have c80x : cst F p q < wdF2 (wdS F p q 1) := by omega
                  refine EV.lvs (lv' := [some (.ref m), some (.int (zI ((p : Int)))), some (.int (zI ((q : Int)))), some (.int (zI (w))), some (.int (zI (wdF2 (wdS F p q 2)))), some (.int (zI (1))), some (.int (zI (cst F p q))), none, none, none]) (by rw [(wd2_y (rfl : wcost F p q 1 = some (cst F p q)) c80x).1]) ?_
                  refine EV.lvs (lv' := [some (.ref m), some (.int (zI ((p : Int)))), some (.int (zI ((q : Int)))), some (.int (zI (w))), some (.int (zI (wdF2 (wdS F p q 2)))), some (.int (zI (wdW (wdS F p q 2)))), some (.int (zI (cst F p q))), none, none, none]) (by rw [(wd2_y (rfl : wcost F p q 1 = some (cst F p q)) c80x).2]; rfl) ?_
                  have hb3 := wd2_in F p q 2
                  refine EV.aload_n (i := 0) dX7_wedding_107 rfl rfl ?_
                  refine EV.iload_n (i := 2) dX7_wedding_108 rfl rfl ?_
                  refine EV.iload_n (i := 1) dX7_wedding_109 rfl rfl ?_
                  refine EV.callVr (M' := mX7_costOf) (as := [.int (zI ((q : Int))), .int (zI ((p : Int)))]) (rest := []) ml_X7_116 im_X7_costOf se_X7_costOf rfl co_X7_costOf dX7_wedding_110 hcm (c_X7_costOf (d + 0) hM hW q p hq hp hbq hb) rfl rfl (Nat.le_of_ble_eq_true rfl) ?_
                  have hciqp := cst_in F q p
                  refine EV.istore (i := 7) (lv' := [some (.ref m), some (.int (zI ((p : Int)))), some (.int (zI ((q : Int)))), some (.int (zI (w))), some (.int (zI (wdF2 (wdS F p q 2)))), some (.int (zI (wdW (wdS F p q 2)))), some (.int (zI (cst F p q))), some (.int (zI (cst F q p))), none, none]) dX7_wedding_113 (by decide) rfl ?_
                  refine EV.iload (i := 7) dX7_wedding_115 rfl ?_
                  refine EV.iload (i := 4) dX7_wedding_117 rfl ?_
                  refine EV.icmp_ge (t := 126) dX7_wedding_119 (by decide) (by omega) (fun c119 => ?_) (fun c119 => ?_)
                  · skip
                    refine EV.iload (i := 5) dX7_wedding_126 rfl ?_
                    refine EV.istore (i := 5) (lv' := [some (.ref m), some (.int (zI ((p : Int)))), some (.int (zI ((q : Int)))), some (.int (zI (w))), some (.int (zI (wdF2 (wdS F p q 2)))), some (.int (zI (wdW (wdS F p q 2)))), some (.int (zI (cst F p q))), some (.int (zI (cst F q p))), none, none]) dX7_wedding_128 (by decide) rfl ?_
                    refine EV.iload (i := 7) dX7_wedding_130 rfl ?_
                    refine EV.iload (i := 4) dX7_wedding_132 rfl ?_
                    refine EV.icmp_ge (t := 142) dX7_wedding_134 (by decide) (by omega) (fun c134 => ?_) (fun c134 => ?_)
                    · skip
                      refine EV.iload (i := 4) dX7_wedding_142 rfl ?_
                      refine EV.istore (i := 4) (lv' := [some (.ref m), some (.int (zI ((p : Int)))), some (.int (zI ((q : Int)))), some (.int (zI (w))), some (.int (zI (wdF2 (wdS F p q 2)))), some (.int (zI (wdW (wdS F p q 2)))), some (.int (zI (cst F p q))), some (.int (zI (cst F q p))), none, none]) dX7_wedding_144 (by decide) rfl ?_
                      refine EV.lvs (lv' := [some (.ref m), some (.int (zI ((p : Int)))), some (.int (zI ((q : Int)))), some (.int (zI (w))), some (.int (zI (wdF2 (wdS F p q 3)))), some (.int (zI (wdW (wdS F p q 2)))), some (.int (zI (cst F p q))), some (.int (zI (cst F q p))), none, none]) (by rw [← wd2_n (rfl : wcost F p q 2 = some (cst F q p)) (by omega) c119]) ?_
                      refine EV.lvs (lv' := [some (.ref m), some (.int (zI ((p : Int)))), some (.int (zI ((q : Int)))), some (.int (zI (w))), some (.int (zI (wdF2 (wdS F p q 3)))), some (.int (zI (wdW (wdS F p q 3)))), some (.int (zI (cst F p q))), some (.int (zI (cst F q p))), none, none]) (by rw [← wd2_n (rfl : wcost F p q 2 = some (cst F q p)) (by omega) c119]) ?_
                      refine EV.iconst dX7_wedding_146 ?_
                      refine EV.istore (i := 8) (lv' := [some (.ref m), some (.int (zI ((p : Int)))), some (.int (zI ((q : Int)))), some (.int (zI (w))), some (.int (zI (wdF2 (wdS F p q 3)))), some (.int (zI (wdW (wdS F p q 3)))), some (.int (zI (cst F p q))), some (.int (zI (cst F q p))), some (.int (zI (0))), none]) dX7_wedding_147 (by decide) rfl ?_
                      have L149 : ∀ (n149 : Nat) (r : Nat) (x4 x5 x8 : Int), (r ≤ 6) → 6 - r < n149 → x4 = wdF2 (wdS F p q (10 + r)) → x5 = wdW (wdS F p q (10 + r)) → x8 = (r : Int) → EV G l mX7_wedding (d + 4) (RQ h (wedR F (p : Int) (q : Int) w)) 149 [some (.ref m), some (.int (zI ((p : Int)))), some (.int (zI ((q : Int)))), some (.int (zI (w))), some (.int (zI (x4))), some (.int (zI (x5))), some (.int (zI (cst F p q))), some (.int (zI (cst F q p))), some (.int (zI (x8))), none] [] h 0 0 := by
                        intro n149
                        induction n149 with
                        | zero => intro _ _ _ _ _ hm; exact absurd hm (Nat.not_lt_zero _)
                        | succ n149 ih149 =>
                          intro r x4 x5 x8 hr hm149 e4 e5 e8
                          subst e4 e5 e8
                          have hb4 := wd2_in F p q (10 + r)
                          refine EV.iload (i := 8) dX7_wedding_149 rfl ?_
                          refine EV.bipush dX7_wedding_151 (by decide) ?_
                          refine EV.icmp_ge (t := 238) dX7_wedding_153 (by decide) (by omega) (fun c153 => ?_) (fun c153 => ?_)
                          · skip
                            obtain rfl : r = 6 := by omega
                            refine EV.iload_n (i := 3) dX7_wedding_238 rfl rfl ?_
                            refine EV.ifne (t := 247) dX7_wedding_239 (by decide) (by omega) (fun c239 => ?_) (fun c239 => ?_)
                            · skip
                              refine EV.iload (i := 5) dX7_wedding_247 rfl ?_
                              refine EV.iret rfl dX7_wedding_249 ?_
                              exact rQ (by rw [wedR_c (twI_t c5 c13 c18) c29, if_neg c239]; rfl)
                            · skip
                              refine EV.iload (i := 4) dX7_wedding_242 rfl ?_
                              refine EV.goto (t := 249) dX7_wedding_244 (by decide) ?_
                              refine EV.iret rfl dX7_wedding_249 ?_
                              exact rQ (by rw [wedR_c (twI_t c5 c13 c18) c29, if_pos c239, Int.toNat_natCast, Int.toNat_natCast, wd_f2])
                          · skip
                            refine EV.aload_n (i := 0) dX7_wedding_156 rfl rfl ?_
                            refine EV.getf fl_X7_41 dX7_wedding_157 hcm rfl ?_
                            refine EV.iload (i := 8) dX7_wedding_160 rfl ?_
                            refine EV.callSr (M' := mX7_has) (as := [.int (zI ((F.1 : Int))), .int (zI ((r : Int)))]) (rest := []) ml_X7_49 sm_X7_has co_X7_has dX7_wedding_162 (c_X7_has (d + 2) F.1 r (by omega) (by omega)) rfl rfl (Nat.le_of_ble_eq_true rfl) ?_
                            refine EV.ifeqB (t := 232) dX7_wedding_165 (by decide) (fun c165 => ?_) (fun c165 => ?_)
                            · skip
                              refine EV.iinc (i := 8) (lv' := [some (.ref m), some (.int (zI ((p : Int)))), some (.int (zI ((q : Int)))), some (.int (zI (w))), some (.int (zI (wdF2 (wdS F p q (10 + r))))), some (.int (zI (wdW (wdS F p q (10 + r))))), some (.int (zI (cst F p q))), some (.int (zI (cst F q p))), some (.int (zI ((r : Int) + 1))), none]) dX7_wedding_232 rfl (by decide) rfl ?_
                              refine EV.goto (t := 149) dX7_wedding_235 (by decide) ?_
                              exact ih149 (r + 1) _ _ _ (by omega) (by omega) (congrArg wdF2 (wdS_n (n := 10 + r) (wcn (by omega) (fun r' h1 _ h3 _ _ => by obtain rfl : r' = r := (by omega); rw [c165] at h3; exact absurd h3 (by decide)))).symm) (congrArg wdW (wdS_n (n := 10 + r) (wcn (by omega) (fun r' h1 _ h3 _ _ => by obtain rfl : r' = r := (by omega); rw [c165] at h3; exact absurd h3 (by decide)))).symm) (rfl)
                            · skip
                              refine EV.iload (i := 8) dX7_wedding_168 rfl ?_
                              refine EV.iload_n (i := 1) dX7_wedding_170 rfl rfl ?_
                              refine EV.icmp_eq (t := 232) dX7_wedding_171 (by decide) (by omega) (fun c171 => ?_) (fun c171 => ?_)
                              · skip
                                refine EV.iinc (i := 8) (lv' := [some (.ref m), some (.int (zI ((p : Int)))), some (.int (zI ((q : Int)))), some (.int (zI (w))), some (.int (zI (wdF2 (wdS F p q (10 + r))))), some (.int (zI (wdW (wdS F p q (10 + r))))), some (.int (zI (cst F p q))), some (.int (zI (cst F q p))), some (.int (zI ((r : Int) + 1))), none]) dX7_wedding_232 rfl (by decide) rfl ?_
                                refine EV.goto (t := 149) dX7_wedding_235 (by decide) ?_
                                exact ih149 (r + 1) _ _ _ (by omega) (by omega) (congrArg wdF2 (wdS_n (n := 10 + r) (wcn (by omega) (fun r' h1 _ _ h4 _ => h4 (by omega)))).symm) (congrArg wdW (wdS_n (n := 10 + r) (wcn (by omega) (fun r' h1 _ _ h4 _ => h4 (by omega)))).symm) (rfl)
                              · skip
                                refine EV.iload (i := 8) dX7_wedding_174 rfl ?_
                                refine EV.iload_n (i := 2) dX7_wedding_176 rfl rfl ?_
                                refine EV.icmp_eq (t := 232) dX7_wedding_177 (by decide) (by omega) (fun c177 => ?_) (fun c177 => ?_)
                                · skip
                                  refine EV.iinc (i := 8) (lv' := [some (.ref m), some (.int (zI ((p : Int)))), some (.int (zI ((q : Int)))), some (.int (zI (w))), some (.int (zI (wdF2 (wdS F p q (10 + r))))), some (.int (zI (wdW (wdS F p q (10 + r))))), some (.int (zI (cst F p q))), some (.int (zI (cst F q p))), some (.int (zI ((r : Int) + 1))), none]) dX7_wedding_232 rfl (by decide) rfl ?_
                                  refine EV.goto (t := 149) dX7_wedding_235 (by decide) ?_
                                  exact ih149 (r + 1) _ _ _ (by omega) (by omega) (congrArg wdF2 (wdS_n (n := 10 + r) (wcn (by omega) (fun r' h1 _ _ _ h5 => h5 (by omega)))).symm) (congrArg wdW (wdS_n (n := 10 + r) (wcn (by omega) (fun r' h1 _ _ _ h5 => h5 (by omega)))).symm) (rfl)
                                · skip
                                  refine EV.aload_n (i := 0) dX7_wedding_180 rfl rfl ?_
                                  refine EV.iload_n (i := 1) dX7_wedding_181 rfl rfl ?_
                                  refine EV.iload (i := 8) dX7_wedding_182 rfl ?_
                                  refine EV.callVr (M' := mX7_costOf) (as := [.int (zI ((p : Int))), .int (zI ((r : Int)))]) (rest := []) ml_X7_116 im_X7_costOf se_X7_costOf rfl co_X7_costOf dX7_wedding_184 hcm (c_X7_costOf (d + 0) hM hW p r hp (by omega) hb c165) rfl rfl (Nat.le_of_ble_eq_true rfl) ?_
                                  have hcipr := cst_in F p r
                                  refine EV.aload_n (i := 0) dX7_wedding_187 rfl rfl ?_
                                  refine EV.iload_n (i := 2) dX7_wedding_188 rfl rfl ?_
                                  refine EV.iload (i := 8) dX7_wedding_189 rfl ?_
                                  refine EV.callVr (M' := mX7_costOf) (as := [.int (zI ((q : Int))), .int (zI ((r : Int)))]) (rest := [.int (zI (cst F p r))]) ml_X7_116 im_X7_costOf se_X7_costOf rfl co_X7_costOf dX7_wedding_191 hcm (c_X7_costOf (d + 0) hM hW q r hq (by omega) hbq c165) rfl rfl (Nat.le_of_ble_eq_true rfl) ?_
                                  have hciqr := cst_in F q r
                                  refine EV.iadd dX7_wedding_194 ?_
                                  refine EV.istore (i := 9) (lv' := [some (.ref m), some (.int (zI ((p : Int)))), some (.int (zI ((q : Int)))), some (.int (zI (w))), some (.int (zI (wdF2 (wdS F p q (10 + r))))), some (.int (zI (wdW (wdS F p q (10 + r))))), some (.int (zI (cst F p q))), some (.int (zI (cst F q p))), some (.int (zI ((r : Int)))), some (.int (zI ((cst F p r + cst F q r))))]) dX7_wedding_195 (by decide) rfl ?_
                                  refine EV.iload (i := 9) dX7_wedding_197 rfl ?_
                                  refine EV.iload (i := 4) dX7_wedding_199 rfl ?_
                                  refine EV.icmp_ge (t := 212) dX7_wedding_201 (by decide) (by omega) (fun c201 => ?_) (fun c201 => ?_)
                                  · skip
                                    refine EV.iload (i := 5) dX7_wedding_212 rfl ?_
                                    refine EV.istore (i := 5) (lv' := [some (.ref m), some (.int (zI ((p : Int)))), some (.int (zI ((q : Int)))), some (.int (zI (w))), some (.int (zI (wdF2 (wdS F p q (10 + r))))), some (.int (zI (wdW (wdS F p q (10 + r))))), some (.int (zI (cst F p q))), some (.int (zI (cst F q p))), some (.int (zI ((r : Int)))), some (.int (zI ((cst F p r + cst F q r))))]) dX7_wedding_214 (by decide) rfl ?_
                                    refine EV.iload (i := 9) dX7_wedding_216 rfl ?_
                                    refine EV.iload (i := 4) dX7_wedding_218 rfl ?_
                                    refine EV.icmp_ge (t := 228) dX7_wedding_220 (by decide) (by omega) (fun c220 => ?_) (fun c220 => ?_)
                                    · skip
                                      refine EV.iload (i := 4) dX7_wedding_228 rfl ?_
                                      refine EV.istore (i := 4) (lv' := [some (.ref m), some (.int (zI ((p : Int)))), some (.int (zI ((q : Int)))), some (.int (zI (w))), some (.int (zI (wdF2 (wdS F p q (10 + r))))), some (.int (zI (wdW (wdS F p q (10 + r))))), some (.int (zI (cst F p q))), some (.int (zI (cst F q p))), some (.int (zI ((r : Int)))), some (.int (zI ((cst F p r + cst F q r))))]) dX7_wedding_230 (by decide) rfl ?_
                                      refine EV.iinc (i := 8) (lv' := [some (.ref m), some (.int (zI ((p : Int)))), some (.int (zI ((q : Int)))), some (.int (zI (w))), some (.int (zI (wdF2 (wdS F p q (10 + r))))), some (.int (zI (wdW (wdS F p q (10 + r))))), some (.int (zI (cst F p q))), some (.int (zI (cst F q p))), some (.int (zI ((r : Int) + 1))), some (.int (zI ((cst F p r + cst F q r))))]) dX7_wedding_232 rfl (by decide) rfl ?_
                                      refine EV.goto (t := 149) dX7_wedding_235 (by decide) ?_
                                      refine EV.drop 9 (lv' := [some (.ref m), some (.int (zI ((p : Int)))), some (.int (zI ((q : Int)))), some (.int (zI (w))), some (.int (zI (wdF2 (wdS F p q (10 + r))))), some (.int (zI (wdW (wdS F p q (10 + r))))), some (.int (zI (cst F p q))), some (.int (zI (cst F q p))), some (.int (zI (((r : Int) + 1)))), none]) rfl ?_
                                      exact ih149 (r + 1) _ _ _ (by omega) (by omega) (congrArg wdF2 (wd2_n (wcr (by omega) c165 (by omega) (by omega)) (by omega) c201)) (congrArg wdW (wd2_n (wcr (by omega) c165 (by omega) (by omega)) (by omega) c201)) (rfl)
                                    · skip
                                      omega
                                  · skip
                                    refine EV.bipush dX7_wedding_204 (by decide) ?_
                                    refine EV.iload (i := 8) dX7_wedding_206 rfl ?_
                                    refine EV.iadd dX7_wedding_208 ?_
                                    refine EV.goto (t := 214) dX7_wedding_209 (by decide) ?_
                                    refine EV.istore (i := 5) (lv' := [some (.ref m), some (.int (zI ((p : Int)))), some (.int (zI ((q : Int)))), some (.int (zI (w))), some (.int (zI (wdF2 (wdS F p q (10 + r))))), some (.int (zI ((10 + (r : Int))))), some (.int (zI (cst F p q))), some (.int (zI (cst F q p))), some (.int (zI ((r : Int)))), some (.int (zI ((cst F p r + cst F q r))))]) dX7_wedding_214 (by decide) rfl ?_
                                    refine EV.iload (i := 9) dX7_wedding_216 rfl ?_
                                    refine EV.iload (i := 4) dX7_wedding_218 rfl ?_
                                    refine EV.icmp_ge (t := 228) dX7_wedding_220 (by decide) (by omega) (fun c220 => ?_) (fun c220 => ?_)
                                    · skip
                                      omega
                                    · skip
                                      refine EV.iload (i := 9) dX7_wedding_223 rfl ?_
                                      refine EV.goto (t := 230) dX7_wedding_225 (by decide) ?_
                                      refine EV.istore (i := 4) (lv' := [some (.ref m), some (.int (zI ((p : Int)))), some (.int (zI ((q : Int)))), some (.int (zI (w))), some (.int (zI ((cst F p r + cst F q r)))), some (.int (zI ((10 + (r : Int))))), some (.int (zI (cst F p q))), some (.int (zI (cst F q p))), some (.int (zI ((r : Int)))), some (.int (zI ((cst F p r + cst F q r))))]) dX7_wedding_230 (by decide) rfl ?_
                                      refine EV.iinc (i := 8) (lv' := [some (.ref m), some (.int (zI ((p : Int)))), some (.int (zI ((q : Int)))), some (.int (zI (w))), some (.int (zI ((cst F p r + cst F q r)))), some (.int (zI ((10 + (r : Int))))), some (.int (zI (cst F p q))), some (.int (zI (cst F q p))), some (.int (zI ((r : Int) + 1))), some (.int (zI ((cst F p r + cst F q r))))]) dX7_wedding_232 rfl (by decide) rfl ?_
                                      refine EV.goto (t := 149) dX7_wedding_235 (by decide) ?_
                                      refine EV.drop 9 (lv' := [some (.ref m), some (.int (zI ((p : Int)))), some (.int (zI ((q : Int)))), some (.int (zI (w))), some (.int (zI ((cst F p r + cst F q r)))), some (.int (zI ((10 + (r : Int))))), some (.int (zI (cst F p q))), some (.int (zI (cst F q p))), some (.int (zI (((r : Int) + 1)))), none]) rfl ?_
                                      exact ih149 (r + 1) _ _ _ (by omega) (by omega) ((wd2_y (wcr (by omega) c165 (by omega) (by omega)) (by omega)).1.symm) ((wd2_y (wcr (by omega) c165 (by omega) (by omega)) (by omega)).2.symm) (rfl)
                      exact L149 _ 0 _ _ _ (by omega) (Nat.lt_succ_self _) (congrArg wdF2 (wd_310 F p q)) (congrArg wdW (wd_310 F p q)) (rfl)
                    · skip
                      omega
                  · skip
                    refine EV.iconst dX7_wedding_122 ?_
                    refine EV.goto (t := 128) dX7_wedding_123 (by decide) ?_
                    refine EV.istore (i := 5) (lv' := [some (.ref m), some (.int (zI ((p : Int)))), some (.int (zI ((q : Int)))), some (.int (zI (w))), some (.int (zI (wdF2 (wdS F p q 2)))), some (.int (zI (2))), some (.int (zI (cst F p q))), some (.int (zI (cst F q p))), none, none]) dX7_wedding_128 (by decide) rfl ?_
                    refine EV.iload (i := 7) dX7_wedding_130 rfl ?_
                    refine EV.iload (i := 4) dX7_wedding_132 rfl ?_
                    refine EV.icmp_ge (t := 142) dX7_wedding_134 (by decide) (by omega) (fun c134 => ?_) (fun c134 => ?_)
                    · skip
                      omega
                    · skip
                      refine EV.iload (i := 7) dX7_wedding_137 rfl ?_
                      refine EV.goto (t := 144) dX7_wedding_139 (by decide) ?_
                      refine EV.istore (i := 4) (lv' := [some (.ref m), some (.int (zI ((p : Int)))), some (.int (zI ((q : Int)))), some (.int (zI (w))), some (.int (zI (cst F q p))), some (.int (zI (2))), some (.int (zI (cst F p q))), some (.int (zI (cst F q p))), none, none]) dX7_wedding_144 (by decide) rfl ?_
                      have c119x : cst F q p < wdF2 (wdS F p q 2) := by omega
                      refine EV.lvs (lv' := [some (.ref m), some (.int (zI ((p : Int)))), some (.int (zI ((q : Int)))), some (.int (zI (w))), some (.int (zI (wdF2 (wdS F p q 3)))), some (.int (zI (2))), some (.int (zI (cst F p q))), some (.int (zI (cst F q p))), none, none]) (by rw [(wd2_y (rfl : wcost F p q 2 = some (cst F q p)) c119x).1]) ?_
                      refine EV.lvs (lv' := [some (.ref m), some (.int (zI ((p : Int)))), some (.int (zI ((q : Int)))), some (.int (zI (w))), some (.int (zI (wdF2 (wdS F p q 3)))), some (.int (zI (wdW (wdS F p q 3)))), some (.int (zI (cst F p q))), some (.int (zI (cst F q p))), none, none]) (by rw [(wd2_y (rfl : wcost F p q 2 = some (cst F q p)) c119x).2]; rfl) ?_
                      refine EV.iconst dX7_wedding_146 ?_
                      refine EV.istore (i := 8) (lv' := [some (.ref m), some (.int (zI ((p : Int)))), some (.int (zI ((q : Int)))), some (.int (zI (w))), some (.int (zI (wdF2 (wdS F p q 3)))), some (.int (zI (wdW (wdS F p q 3)))), some (.int (zI (cst F p q))), some (.int (zI (cst F q p))), some (.int (zI (0))), none]) dX7_wedding_147 (by decide) rfl ?_
                      have L149 : ∀ (n149 : Nat) (r : Nat) (x4 x5 x8 : Int), (r ≤ 6) → 6 - r < n149 → x4 = wdF2 (wdS F p q (10 + r)) → x5 = wdW (wdS F p q (10 + r)) → x8 = (r : Int) → EV G l mX7_wedding (d + 4) (RQ h (wedR F (p : Int) (q : Int) w)) 149 [some (.ref m), some (.int (zI ((p : Int)))), some (.int (zI ((q : Int)))), some (.int (zI (w))), some (.int (zI (x4))), some (.int (zI (x5))), some (.int (zI (cst F p q))), some (.int (zI (cst F q p))), some (.int (zI (x8))), none] [] h 0 0 := by
                        intro n149
                        induction n149 with
                        | zero => intro _ _ _ _ _ hm; exact absurd hm (Nat.not_lt_zero _)
                        | succ n149 ih149 =>
                          intro r x4 x5 x8 hr hm149 e4 e5 e8
                          subst e4 e5 e8
                          have hb4 := wd2_in F p q (10 + r)
                          refine EV.iload (i := 8) dX7_wedding_149 rfl ?_
                          refine EV.bipush dX7_wedding_151 (by decide) ?_
                          refine EV.icmp_ge (t := 238) dX7_wedding_153 (by decide) (by omega) (fun c153 => ?_) (fun c153 => ?_)
                          · skip
                            obtain rfl : r = 6 := by omega
                            refine EV.iload_n (i := 3) dX7_wedding_238 rfl rfl ?_
                            refine EV.ifne (t := 247) dX7_wedding_239 (by decide) (by omega) (fun c239 => ?_) (fun c239 => ?_)
                            · skip
                              refine EV.iload (i := 5) dX7_wedding_247 rfl ?_
                              refine EV.iret rfl dX7_wedding_249 ?_
                              exact rQ (by rw [wedR_c (twI_t c5 c13 c18) c29, if_neg c239]; rfl)
                            · skip
                              refine EV.iload (i := 4) dX7_wedding_242 rfl ?_
                              refine EV.goto (t := 249) dX7_wedding_244 (by decide) ?_
                              refine EV.iret rfl dX7_wedding_249 ?_
                              exact rQ (by rw [wedR_c (twI_t c5 c13 c18) c29, if_pos c239, Int.toNat_natCast, Int.toNat_natCast, wd_f2])
                          · skip
                            refine EV.aload_n (i := 0) dX7_wedding_156 rfl rfl ?_
                            refine EV.getf fl_X7_41 dX7_wedding_157 hcm rfl ?_
                            refine EV.iload (i := 8) dX7_wedding_160 rfl ?_
                            refine EV.callSr (M' := mX7_has) (as := [.int (zI ((F.1 : Int))), .int (zI ((r : Int)))]) (rest := []) ml_X7_49 sm_X7_has co_X7_has dX7_wedding_162 (c_X7_has (d + 2) F.1 r (by omega) (by omega)) rfl rfl (Nat.le_of_ble_eq_true rfl) ?_
                            refine EV.ifeqB (t := 232) dX7_wedding_165 (by decide) (fun c165 => ?_) (fun c165 => ?_)
                            · skip
                              refine EV.iinc (i := 8) (lv' := [some (.ref m), some (.int (zI ((p : Int)))), some (.int (zI ((q : Int)))), some (.int (zI (w))), some (.int (zI (wdF2 (wdS F p q (10 + r))))), some (.int (zI (wdW (wdS F p q (10 + r))))), some (.int (zI (cst F p q))), some (.int (zI (cst F q p))), some (.int (zI ((r : Int) + 1))), none]) dX7_wedding_232 rfl (by decide) rfl ?_
                              refine EV.goto (t := 149) dX7_wedding_235 (by decide) ?_
                              exact ih149 (r + 1) _ _ _ (by omega) (by omega) (congrArg wdF2 (wdS_n (n := 10 + r) (wcn (by omega) (fun r' h1 _ h3 _ _ => by obtain rfl : r' = r := (by omega); rw [c165] at h3; exact absurd h3 (by decide)))).symm) (congrArg wdW (wdS_n (n := 10 + r) (wcn (by omega) (fun r' h1 _ h3 _ _ => by obtain rfl : r' = r := (by omega); rw [c165] at h3; exact absurd h3 (by decide)))).symm) (rfl)
                            · skip
                              refine EV.iload (i := 8) dX7_wedding_168 rfl ?_
                              refine EV.iload_n (i := 1) dX7_wedding_170 rfl rfl ?_
                              refine EV.icmp_eq (t := 232) dX7_wedding_171 (by decide) (by omega) (fun c171 => ?_) (fun c171 => ?_)
                              · skip
                                refine EV.iinc (i := 8) (lv' := [some (.ref m), some (.int (zI ((p : Int)))), some (.int (zI ((q : Int)))), some (.int (zI (w))), some (.int (zI (wdF2 (wdS F p q (10 + r))))), some (.int (zI (wdW (wdS F p q (10 + r))))), some (.int (zI (cst F p q))), some (.int (zI (cst F q p))), some (.int (zI ((r : Int) + 1))), none]) dX7_wedding_232 rfl (by decide) rfl ?_
                                refine EV.goto (t := 149) dX7_wedding_235 (by decide) ?_
                                exact ih149 (r + 1) _ _ _ (by omega) (by omega) (congrArg wdF2 (wdS_n (n := 10 + r) (wcn (by omega) (fun r' h1 _ _ h4 _ => h4 (by omega)))).symm) (congrArg wdW (wdS_n (n := 10 + r) (wcn (by omega) (fun r' h1 _ _ h4 _ => h4 (by omega)))).symm) (rfl)
                              · skip
                                refine EV.iload (i := 8) dX7_wedding_174 rfl ?_
                                refine EV.iload_n (i := 2) dX7_wedding_176 rfl rfl ?_
                                refine EV.icmp_eq (t := 232) dX7_wedding_177 (by decide) (by omega) (fun c177 => ?_) (fun c177 => ?_)
                                · skip
                                  refine EV.iinc (i := 8) (lv' := [some (.ref m), some (.int (zI ((p : Int)))), some (.int (zI ((q : Int)))), some (.int (zI (w))), some (.int (zI (wdF2 (wdS F p q (10 + r))))), some (.int (zI (wdW (wdS F p q (10 + r))))), some (.int (zI (cst F p q))), some (.int (zI (cst F q p))), some (.int (zI ((r : Int) + 1))), none]) dX7_wedding_232 rfl (by decide) rfl ?_
                                  refine EV.goto (t := 149) dX7_wedding_235 (by decide) ?_
                                  exact ih149 (r + 1) _ _ _ (by omega) (by omega) (congrArg wdF2 (wdS_n (n := 10 + r) (wcn (by omega) (fun r' h1 _ _ _ h5 => h5 (by omega)))).symm) (congrArg wdW (wdS_n (n := 10 + r) (wcn (by omega) (fun r' h1 _ _ _ h5 => h5 (by omega)))).symm) (rfl)
                                · skip
                                  refine EV.aload_n (i := 0) dX7_wedding_180 rfl rfl ?_
                                  refine EV.iload_n (i := 1) dX7_wedding_181 rfl rfl ?_
                                  refine EV.iload (i := 8) dX7_wedding_182 rfl ?_
                                  refine EV.callVr (M' := mX7_costOf) (as := [.int (zI ((p : Int))), .int (zI ((r : Int)))]) (rest := []) ml_X7_116 im_X7_costOf se_X7_costOf rfl co_X7_costOf dX7_wedding_184 hcm (c_X7_costOf (d + 0) hM hW p r hp (by omega) hb c165) rfl rfl (Nat.le_of_ble_eq_true rfl) ?_
                                  have hcipr := cst_in F p r
                                  refine EV.aload_n (i := 0) dX7_wedding_187 rfl rfl ?_
                                  refine EV.iload_n (i := 2) dX7_wedding_188 rfl rfl ?_
                                  refine EV.iload (i := 8) dX7_wedding_189 rfl ?_
                                  refine EV.callVr (M' := mX7_costOf) (as := [.int (zI ((q : Int))), .int (zI ((r : Int)))]) (rest := [.int (zI (cst F p r))]) ml_X7_116 im_X7_costOf se_X7_costOf rfl co_X7_costOf dX7_wedding_191 hcm (c_X7_costOf (d + 0) hM hW q r hq (by omega) hbq c165) rfl rfl (Nat.le_of_ble_eq_true rfl) ?_
                                  have hciqr := cst_in F q r
                                  refine EV.iadd dX7_wedding_194 ?_
                                  refine EV.istore (i := 9) (lv' := [some (.ref m), some (.int (zI ((p : Int)))), some (.int (zI ((q : Int)))), some (.int (zI (w))), some (.int (zI (wdF2 (wdS F p q (10 + r))))), some (.int (zI (wdW (wdS F p q (10 + r))))), some (.int (zI (cst F p q))), some (.int (zI (cst F q p))), some (.int (zI ((r : Int)))), some (.int (zI ((cst F p r + cst F q r))))]) dX7_wedding_195 (by decide) rfl ?_
                                  refine EV.iload (i := 9) dX7_wedding_197 rfl ?_
                                  refine EV.iload (i := 4) dX7_wedding_199 rfl ?_
                                  refine EV.icmp_ge (t := 212) dX7_wedding_201 (by decide) (by omega) (fun c201 => ?_) (fun c201 => ?_)
                                  · skip
                                    refine EV.iload (i := 5) dX7_wedding_212 rfl ?_
                                    refine EV.istore (i := 5) (lv' := [some (.ref m), some (.int (zI ((p : Int)))), some (.int (zI ((q : Int)))), some (.int (zI (w))), some (.int (zI (wdF2 (wdS F p q (10 + r))))), some (.int (zI (wdW (wdS F p q (10 + r))))), some (.int (zI (cst F p q))), some (.int (zI (cst F q p))), some (.int (zI ((r : Int)))), some (.int (zI ((cst F p r + cst F q r))))]) dX7_wedding_214 (by decide) rfl ?_
                                    refine EV.iload (i := 9) dX7_wedding_216 rfl ?_
                                    refine EV.iload (i := 4) dX7_wedding_218 rfl ?_
                                    refine EV.icmp_ge (t := 228) dX7_wedding_220 (by decide) (by omega) (fun c220 => ?_) (fun c220 => ?_)
                                    · skip
                                      refine EV.iload (i := 4) dX7_wedding_228 rfl ?_
                                      refine EV.istore (i := 4) (lv' := [some (.ref m), some (.int (zI ((p : Int)))), some (.int (zI ((q : Int)))), some (.int (zI (w))), some (.int (zI (wdF2 (wdS F p q (10 + r))))), some (.int (zI (wdW (wdS F p q (10 + r))))), some (.int (zI (cst F p q))), some (.int (zI (cst F q p))), some (.int (zI ((r : Int)))), some (.int (zI ((cst F p r + cst F q r))))]) dX7_wedding_230 (by decide) rfl ?_
                                      refine EV.iinc (i := 8) (lv' := [some (.ref m), some (.int (zI ((p : Int)))), some (.int (zI ((q : Int)))), some (.int (zI (w))), some (.int (zI (wdF2 (wdS F p q (10 + r))))), some (.int (zI (wdW (wdS F p q (10 + r))))), some (.int (zI (cst F p q))), some (.int (zI (cst F q p))), some (.int (zI ((r : Int) + 1))), some (.int (zI ((cst F p r + cst F q r))))]) dX7_wedding_232 rfl (by decide) rfl ?_
                                      refine EV.goto (t := 149) dX7_wedding_235 (by decide) ?_
                                      refine EV.drop 9 (lv' := [some (.ref m), some (.int (zI ((p : Int)))), some (.int (zI ((q : Int)))), some (.int (zI (w))), some (.int (zI (wdF2 (wdS F p q (10 + r))))), some (.int (zI (wdW (wdS F p q (10 + r))))), some (.int (zI (cst F p q))), some (.int (zI (cst F q p))), some (.int (zI (((r : Int) + 1)))), none]) rfl ?_
                                      exact ih149 (r + 1) _ _ _ (by omega) (by omega) (congrArg wdF2 (wd2_n (wcr (by omega) c165 (by omega) (by omega)) (by omega) c201)) (congrArg wdW (wd2_n (wcr (by omega) c165 (by omega) (by omega)) (by omega) c201)) (rfl)
                                    · skip
                                      omega
                                  · skip
                                    refine EV.bipush dX7_wedding_204 (by decide) ?_
                                    refine EV.iload (i := 8) dX7_wedding_206 rfl ?_
                                    refine EV.iadd dX7_wedding_208 ?_
                                    refine EV.goto (t := 214) dX7_wedding_209 (by decide) ?_
                                    refine EV.istore (i := 5) (lv' := [some (.ref m), some (.int (zI ((p : Int)))), some (.int (zI ((q : Int)))), some (.int (zI (w))), some (.int (zI (wdF2 (wdS F p q (10 + r))))), some (.int (zI ((10 + (r : Int))))), some (.int (zI (cst F p q))), some (.int (zI (cst F q p))), some (.int (zI ((r : Int)))), some (.int (zI ((cst F p r + cst F q r))))]) dX7_wedding_214 (by decide) rfl ?_
                                    refine EV.iload (i := 9) dX7_wedding_216 rfl ?_
                                    refine EV.iload (i := 4) dX7_wedding_218 rfl ?_
                                    refine EV.icmp_ge (t := 228) dX7_wedding_220 (by decide) (by omega) (fun c220 => ?_) (fun c220 => ?_)
                                    · skip
                                      omega
                                    · skip
                                      refine EV.iload (i := 9) dX7_wedding_223 rfl ?_
                                      refine EV.goto (t := 230) dX7_wedding_225 (by decide) ?_
                                      refine EV.istore (i := 4) (lv' := [some (.ref m), some (.int (zI ((p : Int)))), some (.int (zI ((q : Int)))), some (.int (zI (w))), some (.int (zI ((cst F p r + cst F q r)))), some (.int (zI ((10 + (r : Int))))), some (.int (zI (cst F p q))), some (.int (zI (cst F q p))), some (.int (zI ((r : Int)))), some (.int (zI ((cst F p r + cst F q r))))]) dX7_wedding_230 (by decide) rfl ?_
                                      refine EV.iinc (i := 8) (lv' := [some (.ref m), some (.int (zI ((p : Int)))), some (.int (zI ((q : Int)))), some (.int (zI (w))), some (.int (zI ((cst F p r + cst F q r)))), some (.int (zI ((10 + (r : Int))))), some (.int (zI (cst F p q))), some (.int (zI (cst F q p))), some (.int (zI ((r : Int) + 1))), some (.int (zI ((cst F p r + cst F q r))))]) dX7_wedding_232 rfl (by decide) rfl ?_
                                      refine EV.goto (t := 149) dX7_wedding_235 (by decide) ?_
                                      refine EV.drop 9 (lv' := [some (.ref m), some (.int (zI ((p : Int)))), some (.int (zI ((q : Int)))), some (.int (zI (w))), some (.int (zI ((cst F p r + cst F q r)))), some (.int (zI ((10 + (r : Int))))), some (.int (zI (cst F p q))), some (.int (zI (cst F q p))), some (.int (zI (((r : Int) + 1)))), none]) rfl ?_
                                      exact ih149 (r + 1) _ _ _ (by omega) (by omega) ((wd2_y (wcr (by omega) c165 (by omega) (by omega)) (by omega)).1.symm) ((wd2_y (wcr (by omega) c165 (by omega) (by omega)) (by omega)).2.symm) (rfl)
                      exact L149 _ 0 _ _ _ (by omega) (Nat.lt_succ_self _) (congrArg wdF2 (wd_310 F p q)) (congrArg wdW (wd_310 F p q)) (rfl)
            · skip
              omega
          · skip
            refine EV.iconst dX7_wedding_47 ?_
            refine EV.goto (t := 53) dX7_wedding_48 (by decide) ?_
            refine EV.istore (i := 4) (lv' := [some (.ref m), some (.int (zI ((p : Int)))), some (.int (zI ((q : Int)))), some (.int (zI (w))), some (.int (zI (0))), none, none, none, none, none]) dX7_wedding_53 (by decide) rfl ?_
            have z1 := wd1_y (F := F) (p := p) (q := q) (by omega)
            refine EV.lvs (lv' := [some (.ref m), some (.int (zI ((p : Int)))), some (.int (zI ((q : Int)))), some (.int (zI (w))), some (.int (zI (wdF2 (wdS F p q 1)))), none, none, none, none, none]) (by rw [z1]; rfl) ?_
            have z2 : wdF2 (wdS F p q 1) = 0 := by rw [z1]; rfl
            refine EV.iload (i := 4) dX7_wedding_55 rfl ?_
            refine EV.ifne (t := 64) dX7_wedding_57 (by decide) (by omega) (fun c57 => ?_) (fun c57 => ?_)
            · skip
              omega
            · skip
              refine EV.iconst dX7_wedding_60 ?_
              refine EV.goto (t := 66) dX7_wedding_61 (by decide) ?_
              refine EV.istore (i := 5) (lv' := [some (.ref m), some (.int (zI ((p : Int)))), some (.int (zI ((q : Int)))), some (.int (zI (w))), some (.int (zI (wdF2 (wdS F p q 1)))), some (.int (zI (0))), none, none, none, none]) dX7_wedding_66 (by decide) rfl ?_
              refine EV.lvs (lv' := [some (.ref m), some (.int (zI ((p : Int)))), some (.int (zI ((q : Int)))), some (.int (zI (w))), some (.int (zI (wdF2 (wdS F p q 1)))), some (.int (zI (wdW (wdS F p q 1)))), none, none, none, none]) (by rw [z1]; rfl) ?_
              refine EV.aload_n (i := 0) dX7_wedding_68 rfl rfl ?_
              refine EV.iload_n (i := 1) dX7_wedding_69 rfl rfl ?_
              refine EV.iload_n (i := 2) dX7_wedding_70 rfl rfl ?_
              refine EV.callVr (M' := mX7_costOf) (as := [.int (zI ((p : Int))), .int (zI ((q : Int)))]) (rest := []) ml_X7_116 im_X7_costOf se_X7_costOf rfl co_X7_costOf dX7_wedding_71 hcm (c_X7_costOf (d + 0) hM hW p q hp hq hb hbq) rfl rfl (Nat.le_of_ble_eq_true rfl) ?_
              have hcipq := cst_in F p q
              refine EV.istore (i := 6) (lv' := [some (.ref m), some (.int (zI ((p : Int)))), some (.int (zI ((q : Int)))), some (.int (zI (w))), some (.int (zI (wdF2 (wdS F p q 1)))), some (.int (zI (wdW (wdS F p q 1)))), some (.int (zI (cst F p q))), none, none, none]) dX7_wedding_74 (by decide) rfl ?_
              refine EV.iload (i := 6) dX7_wedding_76 rfl ?_
              refine EV.iload (i := 4) dX7_wedding_78 rfl ?_
              refine EV.icmp_ge (t := 87) dX7_wedding_80 (by decide) (by omega) (fun c80 => ?_) (fun c80 => ?_)
              · skip
                refine EV.iload (i := 5) dX7_wedding_87 rfl ?_
                refine EV.istore (i := 5) (lv' := [some (.ref m), some (.int (zI ((p : Int)))), some (.int (zI ((q : Int)))), some (.int (zI (w))), some (.int (zI (wdF2 (wdS F p q 1)))), some (.int (zI (wdW (wdS F p q 1)))), some (.int (zI (cst F p q))), none, none, none]) dX7_wedding_89 (by decide) rfl ?_
                refine EV.iload (i := 6) dX7_wedding_91 rfl ?_
                refine EV.iload (i := 4) dX7_wedding_93 rfl ?_
                refine EV.icmp_ge (t := 103) dX7_wedding_95 (by decide) (by omega) (fun c95 => ?_) (fun c95 => ?_)
                · skip
                  refine EV.iload (i := 4) dX7_wedding_103 rfl ?_
                  refine EV.istore (i := 4) (lv' := [some (.ref m), some (.int (zI ((p : Int)))), some (.int (zI ((q : Int)))), some (.int (zI (w))), some (.int (zI (wdF2 (wdS F p q 1)))), some (.int (zI (wdW (wdS F p q 1)))), some (.int (zI (cst F p q))), none, none, none]) dX7_wedding_105 (by decide) rfl ?_
                  refine EV.lvs (lv' := [some (.ref m), some (.int (zI ((p : Int)))), some (.int (zI ((q : Int)))), some (.int (zI (w))), some (.int (zI (wdF2 (wdS F p q 2)))), some (.int (zI (wdW (wdS F p q 1)))), some (.int (zI (cst F p q))), none, none, none]) (by rw [← wd2_n (rfl : wcost F p q 1 = some (cst F p q)) (by omega) c80]) ?_
                  refine EV.lvs (lv' := [some (.ref m), some (.int (zI ((p : Int)))), some (.int (zI ((q : Int)))), some (.int (zI (w))), some (.int (zI (wdF2 (wdS F p q 2)))), some (.int (zI (wdW (wdS F p q 2)))), some (.int (zI (cst F p q))), none, none, none]) (by rw [← wd2_n (rfl : wcost F p q 1 = some (cst F p q)) (by omega) c80]) ?_
                  have hb3 := wd2_in F p q 2
                  refine EV.aload_n (i := 0) dX7_wedding_107 rfl rfl ?_
                  refine EV.iload_n (i := 2) dX7_wedding_108 rfl rfl ?_
                  refine EV.iload_n (i := 1) dX7_wedding_109 rfl rfl ?_
                  refine EV.callVr (M' := mX7_costOf) (as := [.int (zI ((q : Int))), .int (zI ((p : Int)))]) (rest := []) ml_X7_116 im_X7_costOf se_X7_costOf rfl co_X7_costOf dX7_wedding_110 hcm (c_X7_costOf (d + 0) hM hW q p hq hp hbq hb) rfl rfl (Nat.le_of_ble_eq_true rfl) ?_
                  have hciqp := cst_in F q p
                  refine EV.istore (i := 7) (lv' := [some (.ref m), some (.int (zI ((p : Int)))), some (.int (zI ((q : Int)))), some (.int (zI (w))), some (.int (zI (wdF2 (wdS F p q 2)))), some (.int (zI (wdW (wdS F p q 2)))), some (.int (zI (cst F p q))), some (.int (zI (cst F q p))), none, none]) dX7_wedding_113 (by decide) rfl ?_
                  refine EV.iload (i := 7) dX7_wedding_115 rfl ?_
                  refine EV.iload (i := 4) dX7_wedding_117 rfl ?_
                  refine EV.icmp_ge (t := 126) dX7_wedding_119 (by decide) (by omega) (fun c119 => ?_) (fun c119 => ?_)
                  · skip
                    refine EV.iload (i := 5) dX7_wedding_126 rfl ?_
                    refine EV.istore (i := 5) (lv' := [some (.ref m), some (.int (zI ((p : Int)))), some (.int (zI ((q : Int)))), some (.int (zI (w))), some (.int (zI (wdF2 (wdS F p q 2)))), some (.int (zI (wdW (wdS F p q 2)))), some (.int (zI (cst F p q))), some (.int (zI (cst F q p))), none, none]) dX7_wedding_128 (by decide) rfl ?_
                    refine EV.iload (i := 7) dX7_wedding_130 rfl ?_
                    refine EV.iload (i := 4) dX7_wedding_132 rfl ?_
                    refine EV.icmp_ge (t := 142) dX7_wedding_134 (by decide) (by omega) (fun c134 => ?_) (fun c134 => ?_)
                    · skip
                      refine EV.iload (i := 4) dX7_wedding_142 rfl ?_
                      refine EV.istore (i := 4) (lv' := [some (.ref m), some (.int (zI ((p : Int)))), some (.int (zI ((q : Int)))), some (.int (zI (w))), some (.int (zI (wdF2 (wdS F p q 2)))), some (.int (zI (wdW (wdS F p q 2)))), some (.int (zI (cst F p q))), some (.int (zI (cst F q p))), none, none]) dX7_wedding_144 (by decide) rfl ?_
                      refine EV.lvs (lv' := [some (.ref m), some (.int (zI ((p : Int)))), some (.int (zI ((q : Int)))), some (.int (zI (w))), some (.int (zI (wdF2 (wdS F p q 3)))), some (.int (zI (wdW (wdS F p q 2)))), some (.int (zI (cst F p q))), some (.int (zI (cst F q p))), none, none]) (by rw [← wd2_n (rfl : wcost F p q 2 = some (cst F q p)) (by omega) c119]) ?_
                      refine EV.lvs (lv' := [some (.ref m), some (.int (zI ((p : Int)))), some (.int (zI ((q : Int)))), some (.int (zI (w))), some (.int (zI (wdF2 (wdS F p q 3)))), some (.int (zI (wdW (wdS F p q 3)))), some (.int (zI (cst F p q))), some (.int (zI (cst F q p))), none, none]) (by rw [← wd2_n (rfl : wcost F p q 2 = some (cst F q p)) (by omega) c119]) ?_
                      refine EV.iconst dX7_wedding_146 ?_
                      refine EV.istore (i := 8) (lv' := [some (.ref m), some (.int (zI ((p : Int)))), some (.int (zI ((q : Int)))), some (.int (zI (w))), some (.int (zI (wdF2 (wdS F p q 3)))), some (.int (zI (wdW (wdS F p q 3)))), some (.int (zI (cst F p q))), some (.int (zI (cst F q p))), some (.int (zI (0))), none]) dX7_wedding_147 (by decide) rfl ?_
                      have L149 : ∀ (n149 : Nat) (r : Nat) (x4 x5 x8 : Int), (r ≤ 6) → 6 - r < n149 → x4 = wdF2 (wdS F p q (10 + r)) → x5 = wdW (wdS F p q (10 + r)) → x8 = (r : Int) → EV G l mX7_wedding (d + 4) (RQ h (wedR F (p : Int) (q : Int) w)) 149 [some (.ref m), some (.int (zI ((p : Int)))), some (.int (zI ((q : Int)))), some (.int (zI (w))), some (.int (zI (x4))), some (.int (zI (x5))), some (.int (zI (cst F p q))), some (.int (zI (cst F q p))), some (.int (zI (x8))), none] [] h 0 0 := by
                        intro n149
                        induction n149 with
                        | zero => intro _ _ _ _ _ hm; exact absurd hm (Nat.not_lt_zero _)
                        | succ n149 ih149 =>
                          intro r x4 x5 x8 hr hm149 e4 e5 e8
                          subst e4 e5 e8
                          have hb4 := wd2_in F p q (10 + r)
                          refine EV.iload (i := 8) dX7_wedding_149 rfl ?_
                          refine EV.bipush dX7_wedding_151 (by decide) ?_
                          refine EV.icmp_ge (t := 238) dX7_wedding_153 (by decide) (by omega) (fun c153 => ?_) (fun c153 => ?_)
                          · skip
                            obtain rfl : r = 6 := by omega
                            refine EV.iload_n (i := 3) dX7_wedding_238 rfl rfl ?_
                            refine EV.ifne (t := 247) dX7_wedding_239 (by decide) (by omega) (fun c239 => ?_) (fun c239 => ?_)
                            · skip
                              refine EV.iload (i := 5) dX7_wedding_247 rfl ?_
                              refine EV.iret rfl dX7_wedding_249 ?_
                              exact rQ (by rw [wedR_c (twI_t c5 c13 c18) c29, if_neg c239]; rfl)
                            · skip
                              refine EV.iload (i := 4) dX7_wedding_242 rfl ?_
                              refine EV.goto (t := 249) dX7_wedding_244 (by decide) ?_
                              refine EV.iret rfl dX7_wedding_249 ?_
                              exact rQ (by rw [wedR_c (twI_t c5 c13 c18) c29, if_pos c239, Int.toNat_natCast, Int.toNat_natCast, wd_f2])
                          · skip
                            refine EV.aload_n (i := 0) dX7_wedding_156 rfl rfl ?_
                            refine EV.getf fl_X7_41 dX7_wedding_157 hcm rfl ?_
                            refine EV.iload (i := 8) dX7_wedding_160 rfl ?_
                            refine EV.callSr (M' := mX7_has) (as := [.int (zI ((F.1 : Int))), .int (zI ((r : Int)))]) (rest := []) ml_X7_49 sm_X7_has co_X7_has dX7_wedding_162 (c_X7_has (d + 2) F.1 r (by omega) (by omega)) rfl rfl (Nat.le_of_ble_eq_true rfl) ?_
                            refine EV.ifeqB (t := 232) dX7_wedding_165 (by decide) (fun c165 => ?_) (fun c165 => ?_)
                            · skip
                              refine EV.iinc (i := 8) (lv' := [some (.ref m), some (.int (zI ((p : Int)))), some (.int (zI ((q : Int)))), some (.int (zI (w))), some (.int (zI (wdF2 (wdS F p q (10 + r))))), some (.int (zI (wdW (wdS F p q (10 + r))))), some (.int (zI (cst F p q))), some (.int (zI (cst F q p))), some (.int (zI ((r : Int) + 1))), none]) dX7_wedding_232 rfl (by decide) rfl ?_
                              refine EV.goto (t := 149) dX7_wedding_235 (by decide) ?_
                              exact ih149 (r + 1) _ _ _ (by omega) (by omega) (congrArg wdF2 (wdS_n (n := 10 + r) (wcn (by omega) (fun r' h1 _ h3 _ _ => by obtain rfl : r' = r := (by omega); rw [c165] at h3; exact absurd h3 (by decide)))).symm) (congrArg wdW (wdS_n (n := 10 + r) (wcn (by omega) (fun r' h1 _ h3 _ _ => by obtain rfl : r' = r := (by omega); rw [c165] at h3; exact absurd h3 (by decide)))).symm) (rfl)
                            · skip
                              refine EV.iload (i := 8) dX7_wedding_168 rfl ?_
                              refine EV.iload_n (i := 1) dX7_wedding_170 rfl rfl ?_
                              refine EV.icmp_eq (t := 232) dX7_wedding_171 (by decide) (by omega) (fun c171 => ?_) (fun c171 => ?_)
                              · skip
                                refine EV.iinc (i := 8) (lv' := [some (.ref m), some (.int (zI ((p : Int)))), some (.int (zI ((q : Int)))), some (.int (zI (w))), some (.int (zI (wdF2 (wdS F p q (10 + r))))), some (.int (zI (wdW (wdS F p q (10 + r))))), some (.int (zI (cst F p q))), some (.int (zI (cst F q p))), some (.int (zI ((r : Int) + 1))), none]) dX7_wedding_232 rfl (by decide) rfl ?_
                                refine EV.goto (t := 149) dX7_wedding_235 (by decide) ?_
                                exact ih149 (r + 1) _ _ _ (by omega) (by omega) (congrArg wdF2 (wdS_n (n := 10 + r) (wcn (by omega) (fun r' h1 _ _ h4 _ => h4 (by omega)))).symm) (congrArg wdW (wdS_n (n := 10 + r) (wcn (by omega) (fun r' h1 _ _ h4 _ => h4 (by omega)))).symm) (rfl)
                              · skip
                                refine EV.iload (i := 8) dX7_wedding_174 rfl ?_
                                refine EV.iload_n (i := 2) dX7_wedding_176 rfl rfl ?_
                                refine EV.icmp_eq (t := 232) dX7_wedding_177 (by decide) (by omega) (fun c177 => ?_) (fun c177 => ?_)
                                · skip
                                  refine EV.iinc (i := 8) (lv' := [some (.ref m), some (.int (zI ((p : Int)))), some (.int (zI ((q : Int)))), some (.int (zI (w))), some (.int (zI (wdF2 (wdS F p q (10 + r))))), some (.int (zI (wdW (wdS F p q (10 + r))))), some (.int (zI (cst F p q))), some (.int (zI (cst F q p))), some (.int (zI ((r : Int) + 1))), none]) dX7_wedding_232 rfl (by decide) rfl ?_
                                  refine EV.goto (t := 149) dX7_wedding_235 (by decide) ?_
                                  exact ih149 (r + 1) _ _ _ (by omega) (by omega) (congrArg wdF2 (wdS_n (n := 10 + r) (wcn (by omega) (fun r' h1 _ _ _ h5 => h5 (by omega)))).symm) (congrArg wdW (wdS_n (n := 10 + r) (wcn (by omega) (fun r' h1 _ _ _ h5 => h5 (by omega)))).symm) (rfl)
                                · skip
                                  refine EV.aload_n (i := 0) dX7_wedding_180 rfl rfl ?_
                                  refine EV.iload_n (i := 1) dX7_wedding_181 rfl rfl ?_
                                  refine EV.iload (i := 8) dX7_wedding_182 rfl ?_
                                  refine EV.callVr (M' := mX7_costOf) (as := [.int (zI ((p : Int))), .int (zI ((r : Int)))]) (rest := []) ml_X7_116 im_X7_costOf se_X7_costOf rfl co_X7_costOf dX7_wedding_184 hcm (c_X7_costOf (d + 0) hM hW p r hp (by omega) hb c165) rfl rfl (Nat.le_of_ble_eq_true rfl) ?_
                                  have hcipr := cst_in F p r
                                  refine EV.aload_n (i := 0) dX7_wedding_187 rfl rfl ?_
                                  refine EV.iload_n (i := 2) dX7_wedding_188 rfl rfl ?_
                                  refine EV.iload (i := 8) dX7_wedding_189 rfl ?_
                                  refine EV.callVr (M' := mX7_costOf) (as := [.int (zI ((q : Int))), .int (zI ((r : Int)))]) (rest := [.int (zI (cst F p r))]) ml_X7_116 im_X7_costOf se_X7_costOf rfl co_X7_costOf dX7_wedding_191 hcm (c_X7_costOf (d + 0) hM hW q r hq (by omega) hbq c165) rfl rfl (Nat.le_of_ble_eq_true rfl) ?_
                                  have hciqr := cst_in F q r
                                  refine EV.iadd dX7_wedding_194 ?_
                                  refine EV.istore (i := 9) (lv' := [some (.ref m), some (.int (zI ((p : Int)))), some (.int (zI ((q : Int)))), some (.int (zI (w))), some (.int (zI (wdF2 (wdS F p q (10 + r))))), some (.int (zI (wdW (wdS F p q (10 + r))))), some (.int (zI (cst F p q))), some (.int (zI (cst F q p))), some (.int (zI ((r : Int)))), some (.int (zI ((cst F p r + cst F q r))))]) dX7_wedding_195 (by decide) rfl ?_
                                  refine EV.iload (i := 9) dX7_wedding_197 rfl ?_
                                  refine EV.iload (i := 4) dX7_wedding_199 rfl ?_
                                  refine EV.icmp_ge (t := 212) dX7_wedding_201 (by decide) (by omega) (fun c201 => ?_) (fun c201 => ?_)
                                  · skip
                                    refine EV.iload (i := 5) dX7_wedding_212 rfl ?_
                                    refine EV.istore (i := 5) (lv' := [some (.ref m), some (.int (zI ((p : Int)))), some (.int (zI ((q : Int)))), some (.int (zI (w))), some (.int (zI (wdF2 (wdS F p q (10 + r))))), some (.int (zI (wdW (wdS F p q (10 + r))))), some (.int (zI (cst F p q))), some (.int (zI (cst F q p))), some (.int (zI ((r : Int)))), some (.int (zI ((cst F p r + cst F q r))))]) dX7_wedding_214 (by decide) rfl ?_
                                    refine EV.iload (i := 9) dX7_wedding_216 rfl ?_
                                    refine EV.iload (i := 4) dX7_wedding_218 rfl ?_
                                    refine EV.icmp_ge (t := 228) dX7_wedding_220 (by decide) (by omega) (fun c220 => ?_) (fun c220 => ?_)
                                    · skip
                                      refine EV.iload (i := 4) dX7_wedding_228 rfl ?_
                                      refine EV.istore (i := 4) (lv' := [some (.ref m), some (.int (zI ((p : Int)))), some (.int (zI ((q : Int)))), some (.int (zI (w))), some (.int (zI (wdF2 (wdS F p q (10 + r))))), some (.int (zI (wdW (wdS F p q (10 + r))))), some (.int (zI (cst F p q))), some (.int (zI (cst F q p))), some (.int (zI ((r : Int)))), some (.int (zI ((cst F p r + cst F q r))))]) dX7_wedding_230 (by decide) rfl ?_
                                      refine EV.iinc (i := 8) (lv' := [some (.ref m), some (.int (zI ((p : Int)))), some (.int (zI ((q : Int)))), some (.int (zI (w))), some (.int (zI (wdF2 (wdS F p q (10 + r))))), some (.int (zI (wdW (wdS F p q (10 + r))))), some (.int (zI (cst F p q))), some (.int (zI (cst F q p))), some (.int (zI ((r : Int) + 1))), some (.int (zI ((cst F p r + cst F q r))))]) dX7_wedding_232 rfl (by decide) rfl ?_
                                      refine EV.goto (t := 149) dX7_wedding_235 (by decide) ?_
                                      refine EV.drop 9 (lv' := [some (.ref m), some (.int (zI ((p : Int)))), some (.int (zI ((q : Int)))), some (.int (zI (w))), some (.int (zI (wdF2 (wdS F p q (10 + r))))), some (.int (zI (wdW (wdS F p q (10 + r))))), some (.int (zI (cst F p q))), some (.int (zI (cst F q p))), some (.int (zI (((r : Int) + 1)))), none]) rfl ?_
                                      exact ih149 (r + 1) _ _ _ (by omega) (by omega) (congrArg wdF2 (wd2_n (wcr (by omega) c165 (by omega) (by omega)) (by omega) c201)) (congrArg wdW (wd2_n (wcr (by omega) c165 (by omega) (by omega)) (by omega) c201)) (rfl)
                                    · skip
                                      omega
                                  · skip
                                    refine EV.bipush dX7_wedding_204 (by decide) ?_
                                    refine EV.iload (i := 8) dX7_wedding_206 rfl ?_
                                    refine EV.iadd dX7_wedding_208 ?_
                                    refine EV.goto (t := 214) dX7_wedding_209 (by decide) ?_
                                    refine EV.istore (i := 5) (lv' := [some (.ref m), some (.int (zI ((p : Int)))), some (.int (zI ((q : Int)))), some (.int (zI (w))), some (.int (zI (wdF2 (wdS F p q (10 + r))))), some (.int (zI ((10 + (r : Int))))), some (.int (zI (cst F p q))), some (.int (zI (cst F q p))), some (.int (zI ((r : Int)))), some (.int (zI ((cst F p r + cst F q r))))]) dX7_wedding_214 (by decide) rfl ?_
                                    refine EV.iload (i := 9) dX7_wedding_216 rfl ?_
                                    refine EV.iload (i := 4) dX7_wedding_218 rfl ?_
                                    refine EV.icmp_ge (t := 228) dX7_wedding_220 (by decide) (by omega) (fun c220 => ?_) (fun c220 => ?_)
                                    · skip
                                      omega
                                    · skip
                                      refine EV.iload (i := 9) dX7_wedding_223 rfl ?_
                                      refine EV.goto (t := 230) dX7_wedding_225 (by decide) ?_
                                      refine EV.istore (i := 4) (lv' := [some (.ref m), some (.int (zI ((p : Int)))), some (.int (zI ((q : Int)))), some (.int (zI (w))), some (.int (zI ((cst F p r + cst F q r)))), some (.int (zI ((10 + (r : Int))))), some (.int (zI (cst F p q))), some (.int (zI (cst F q p))), some (.int (zI ((r : Int)))), some (.int (zI ((cst F p r + cst F q r))))]) dX7_wedding_230 (by decide) rfl ?_
                                      refine EV.iinc (i := 8) (lv' := [some (.ref m), some (.int (zI ((p : Int)))), some (.int (zI ((q : Int)))), some (.int (zI (w))), some (.int (zI ((cst F p r + cst F q r)))), some (.int (zI ((10 + (r : Int))))), some (.int (zI (cst F p q))), some (.int (zI (cst F q p))), some (.int (zI ((r : Int) + 1))), some (.int (zI ((cst F p r + cst F q r))))]) dX7_wedding_232 rfl (by decide) rfl ?_
                                      refine EV.goto (t := 149) dX7_wedding_235 (by decide) ?_
                                      refine EV.drop 9 (lv' := [some (.ref m), some (.int (zI ((p : Int)))), some (.int (zI ((q : Int)))), some (.int (zI (w))), some (.int (zI ((cst F p r + cst F q r)))), some (.int (zI ((10 + (r : Int))))), some (.int (zI (cst F p q))), some (.int (zI (cst F q p))), some (.int (zI (((r : Int) + 1)))), none]) rfl ?_
                                      exact ih149 (r + 1) _ _ _ (by omega) (by omega) ((wd2_y (wcr (by omega) c165 (by omega) (by omega)) (by omega)).1.symm) ((wd2_y (wcr (by omega) c165 (by omega) (by omega)) (by omega)).2.symm) (rfl)
                      exact L149 _ 0 _ _ _ (by omega) (Nat.lt_succ_self _) (congrArg wdF2 (wd_310 F p q)) (congrArg wdW (wd_310 F p q)) (rfl)
                    · skip
                      omega
                  · skip
                    refine EV.iconst dX7_wedding_122 ?_
                    refine EV.goto (t := 128) dX7_wedding_123 (by decide) ?_
                    refine EV.istore (i := 5) (lv' := [some (.ref m), some (.int (zI ((p : Int)))), some (.int (zI ((q : Int)))), some (.int (zI (w))), some (.int (zI (wdF2 (wdS F p q 2)))), some (.int (zI (2))), some (.int (zI (cst F p q))), some (.int (zI (cst F q p))), none, none]) dX7_wedding_128 (by decide) rfl ?_
                    refine EV.iload (i := 7) dX7_wedding_130 rfl ?_
                    refine EV.iload (i := 4) dX7_wedding_132 rfl ?_
                    refine EV.icmp_ge (t := 142) dX7_wedding_134 (by decide) (by omega) (fun c134 => ?_) (fun c134 => ?_)
                    · skip
                      omega
                    · skip
                      refine EV.iload (i := 7) dX7_wedding_137 rfl ?_
                      refine EV.goto (t := 144) dX7_wedding_139 (by decide) ?_
                      refine EV.istore (i := 4) (lv' := [some (.ref m), some (.int (zI ((p : Int)))), some (.int (zI ((q : Int)))), some (.int (zI (w))), some (.int (zI (cst F q p))), some (.int (zI (2))), some (.int (zI (cst F p q))), some (.int (zI (cst F q p))), none, none]) dX7_wedding_144 (by decide) rfl ?_
                      have c119x : cst F q p < wdF2 (wdS F p q 2) := by omega
                      refine EV.lvs (lv' := [some (.ref m), some (.int (zI ((p : Int)))), some (.int (zI ((q : Int)))), some (.int (zI (w))), some (.int (zI (wdF2 (wdS F p q 3)))), some (.int (zI (2))), some (.int (zI (cst F p q))), some (.int (zI (cst F q p))), none, none]) (by rw [(wd2_y (rfl : wcost F p q 2 = some (cst F q p)) c119x).1]) ?_
                      refine EV.lvs (lv' := [some (.ref m), some (.int (zI ((p : Int)))), some (.int (zI ((q : Int)))), some (.int (zI (w))), some (.int (zI (wdF2 (wdS F p q 3)))), some (.int (zI (wdW (wdS F p q 3)))), some (.int (zI (cst F p q))), some (.int (zI (cst F q p))), none, none]) (by rw [(wd2_y (rfl : wcost F p q 2 = some (cst F q p)) c119x).2]; rfl) ?_
                      refine EV.iconst dX7_wedding_146 ?_
                      refine EV.istore (i := 8) (lv' := [some (.ref m), some (.int (zI ((p : Int)))), some (.int (zI ((q : Int)))), some (.int (zI (w))), some (.int (zI (wdF2 (wdS F p q 3)))), some (.int (zI (wdW (wdS F p q 3)))), some (.int (zI (cst F p q))), some (.int (zI (cst F q p))), some (.int (zI (0))), none]) dX7_wedding_147 (by decide) rfl ?_
                      have L149 : ∀ (n149 : Nat) (r : Nat) (x4 x5 x8 : Int), (r ≤ 6) → 6 - r < n149 → x4 = wdF2 (wdS F p q (10 + r)) → x5 = wdW (wdS F p q (10 + r)) → x8 = (r : Int) → EV G l mX7_wedding (d + 4) (RQ h (wedR F (p : Int) (q : Int) w)) 149 [some (.ref m), some (.int (zI ((p : Int)))), some (.int (zI ((q : Int)))), some (.int (zI (w))), some (.int (zI (x4))), some (.int (zI (x5))), some (.int (zI (cst F p q))), some (.int (zI (cst F q p))), some (.int (zI (x8))), none] [] h 0 0 := by
                        intro n149
                        induction n149 with
                        | zero => intro _ _ _ _ _ hm; exact absurd hm (Nat.not_lt_zero _)
                        | succ n149 ih149 =>
                          intro r x4 x5 x8 hr hm149 e4 e5 e8
                          subst e4 e5 e8
                          have hb4 := wd2_in F p q (10 + r)
                          refine EV.iload (i := 8) dX7_wedding_149 rfl ?_
                          refine EV.bipush dX7_wedding_151 (by decide) ?_
                          refine EV.icmp_ge (t := 238) dX7_wedding_153 (by decide) (by omega) (fun c153 => ?_) (fun c153 => ?_)
                          · skip
                            obtain rfl : r = 6 := by omega
                            refine EV.iload_n (i := 3) dX7_wedding_238 rfl rfl ?_
                            refine EV.ifne (t := 247) dX7_wedding_239 (by decide) (by omega) (fun c239 => ?_) (fun c239 => ?_)
                            · skip
                              refine EV.iload (i := 5) dX7_wedding_247 rfl ?_
                              refine EV.iret rfl dX7_wedding_249 ?_
                              exact rQ (by rw [wedR_c (twI_t c5 c13 c18) c29, if_neg c239]; rfl)
                            · skip
                              refine EV.iload (i := 4) dX7_wedding_242 rfl ?_
                              refine EV.goto (t := 249) dX7_wedding_244 (by decide) ?_
                              refine EV.iret rfl dX7_wedding_249 ?_
                              exact rQ (by rw [wedR_c (twI_t c5 c13 c18) c29, if_pos c239, Int.toNat_natCast, Int.toNat_natCast, wd_f2])
                          · skip
                            refine EV.aload_n (i := 0) dX7_wedding_156 rfl rfl ?_
                            refine EV.getf fl_X7_41 dX7_wedding_157 hcm rfl ?_
                            refine EV.iload (i := 8) dX7_wedding_160 rfl ?_
                            refine EV.callSr (M' := mX7_has) (as := [.int (zI ((F.1 : Int))), .int (zI ((r : Int)))]) (rest := []) ml_X7_49 sm_X7_has co_X7_has dX7_wedding_162 (c_X7_has (d + 2) F.1 r (by omega) (by omega)) rfl rfl (Nat.le_of_ble_eq_true rfl) ?_
                            refine EV.ifeqB (t := 232) dX7_wedding_165 (by decide) (fun c165 => ?_) (fun c165 => ?_)
                            · skip
                              refine EV.iinc (i := 8) (lv' := [some (.ref m), some (.int (zI ((p : Int)))), some (.int (zI ((q : Int)))), some (.int (zI (w))), some (.int (zI (wdF2 (wdS F p q (10 + r))))), some (.int (zI (wdW (wdS F p q (10 + r))))), some (.int (zI (cst F p q))), some (.int (zI (cst F q p))), some (.int (zI ((r : Int) + 1))), none]) dX7_wedding_232 rfl (by decide) rfl ?_
                              refine EV.goto (t := 149) dX7_wedding_235 (by decide) ?_
                              exact ih149 (r + 1) _ _ _ (by omega) (by omega) (congrArg wdF2 (wdS_n (n := 10 + r) (wcn (by omega) (fun r' h1 _ h3 _ _ => by obtain rfl : r' = r := (by omega); rw [c165] at h3; exact absurd h3 (by decide)))).symm) (congrArg wdW (wdS_n (n := 10 + r) (wcn (by omega) (fun r' h1 _ h3 _ _ => by obtain rfl : r' = r := (by omega); rw [c165] at h3; exact absurd h3 (by decide)))).symm) (rfl)
                            · skip
                              refine EV.iload (i := 8) dX7_wedding_168 rfl ?_
                              refine EV.iload_n (i := 1) dX7_wedding_170 rfl rfl ?_
                              refine EV.icmp_eq (t := 232) dX7_wedding_171 (by decide) (by omega) (fun c171 => ?_) (fun c171 => ?_)
                              · skip
                                refine EV.iinc (i := 8) (lv' := [some (.ref m), some (.int (zI ((p : Int)))), some (.int (zI ((q : Int)))), some (.int (zI (w))), some (.int (zI (wdF2 (wdS F p q (10 + r))))), some (.int (zI (wdW (wdS F p q (10 + r))))), some (.int (zI (cst F p q))), some (.int (zI (cst F q p))), some (.int (zI ((r : Int) + 1))), none]) dX7_wedding_232 rfl (by decide) rfl ?_
                                refine EV.goto (t := 149) dX7_wedding_235 (by decide) ?_
                                exact ih149 (r + 1) _ _ _ (by omega) (by omega) (congrArg wdF2 (wdS_n (n := 10 + r) (wcn (by omega) (fun r' h1 _ _ h4 _ => h4 (by omega)))).symm) (congrArg wdW (wdS_n (n := 10 + r) (wcn (by omega) (fun r' h1 _ _ h4 _ => h4 (by omega)))).symm) (rfl)
                              · skip
                                refine EV.iload (i := 8) dX7_wedding_174 rfl ?_
                                refine EV.iload_n (i := 2) dX7_wedding_176 rfl rfl ?_
                                refine EV.icmp_eq (t := 232) dX7_wedding_177 (by decide) (by omega) (fun c177 => ?_) (fun c177 => ?_)
                                · skip
                                  refine EV.iinc (i := 8) (lv' := [some (.ref m), some (.int (zI ((p : Int)))), some (.int (zI ((q : Int)))), some (.int (zI (w))), some (.int (zI (wdF2 (wdS F p q (10 + r))))), some (.int (zI (wdW (wdS F p q (10 + r))))), some (.int (zI (cst F p q))), some (.int (zI (cst F q p))), some (.int (zI ((r : Int) + 1))), none]) dX7_wedding_232 rfl (by decide) rfl ?_
                                  refine EV.goto (t := 149) dX7_wedding_235 (by decide) ?_
                                  exact ih149 (r + 1) _ _ _ (by omega) (by omega) (congrArg wdF2 (wdS_n (n := 10 + r) (wcn (by omega) (fun r' h1 _ _ _ h5 => h5 (by omega)))).symm) (congrArg wdW (wdS_n (n := 10 + r) (wcn (by omega) (fun r' h1 _ _ _ h5 => h5 (by omega)))).symm) (rfl)
                                · skip
                                  refine EV.aload_n (i := 0) dX7_wedding_180 rfl rfl ?_
                                  refine EV.iload_n (i := 1) dX7_wedding_181 rfl rfl ?_
                                  refine EV.iload (i := 8) dX7_wedding_182 rfl ?_
                                  refine EV.callVr (M' := mX7_costOf) (as := [.int (zI ((p : Int))), .int (zI ((r : Int)))]) (rest := []) ml_X7_116 im_X7_costOf se_X7_costOf rfl co_X7_costOf dX7_wedding_184 hcm (c_X7_costOf (d + 0) hM hW p r hp (by omega) hb c165) rfl rfl (Nat.le_of_ble_eq_true rfl) ?_
                                  have hcipr := cst_in F p r
                                  refine EV.aload_n (i := 0) dX7_wedding_187 rfl rfl ?_
                                  refine EV.iload_n (i := 2) dX7_wedding_188 rfl rfl ?_
                                  refine EV.iload (i := 8) dX7_wedding_189 rfl ?_
                                  refine EV.callVr (M' := mX7_costOf) (as := [.int (zI ((q : Int))), .int (zI ((r : Int)))]) (rest := [.int (zI (cst F p r))]) ml_X7_116 im_X7_costOf se_X7_costOf rfl co_X7_costOf dX7_wedding_191 hcm (c_X7_costOf (d + 0) hM hW q r hq (by omega) hbq c165) rfl rfl (Nat.le_of_ble_eq_true rfl) ?_
                                  have hciqr := cst_in F q r
                                  refine EV.iadd dX7_wedding_194 ?_
                                  refine EV.istore (i := 9) (lv' := [some (.ref m), some (.int (zI ((p : Int)))), some (.int (zI ((q : Int)))), some (.int (zI (w))), some (.int (zI (wdF2 (wdS F p q (10 + r))))), some (.int (zI (wdW (wdS F p q (10 + r))))), some (.int (zI (cst F p q))), some (.int (zI (cst F q p))), some (.int (zI ((r : Int)))), some (.int (zI ((cst F p r + cst F q r))))]) dX7_wedding_195 (by decide) rfl ?_
                                  refine EV.iload (i := 9) dX7_wedding_197 rfl ?_
                                  refine EV.iload (i := 4) dX7_wedding_199 rfl ?_
                                  refine EV.icmp_ge (t := 212) dX7_wedding_201 (by decide) (by omega) (fun c201 => ?_) (fun c201 => ?_)
                                  · skip
                                    refine EV.iload (i := 5) dX7_wedding_212 rfl ?_
                                    refine EV.istore (i := 5) (lv' := [some (.ref m), some (.int (zI ((p : Int)))), some (.int (zI ((q : Int)))), some (.int (zI (w))), some (.int (zI (wdF2 (wdS F p q (10 + r))))), some (.int (zI (wdW (wdS F p q (10 + r))))), some (.int (zI (cst F p q))), some (.int (zI (cst F q p))), some (.int (zI ((r : Int)))), some (.int (zI ((cst F p r + cst F q r))))]) dX7_wedding_214 (by decide) rfl ?_
                                    refine EV.iload (i := 9) dX7_wedding_216 rfl ?_
                                    refine EV.iload (i := 4) dX7_wedding_218 rfl ?_
                                    refine EV.icmp_ge (t := 228) dX7_wedding_220 (by decide) (by omega) (fun c220 => ?_) (fun c220 => ?_)
                                    · skip
                                      refine EV.iload (i := 4) dX7_wedding_228 rfl ?_
                                      refine EV.istore (i := 4) (lv' := [some (.ref m), some (.int (zI ((p : Int)))), some (.int (zI ((q : Int)))), some (.int (zI (w))), some (.int (zI (wdF2 (wdS F p q (10 + r))))), some (.int (zI (wdW (wdS F p q (10 + r))))), some (.int (zI (cst F p q))), some (.int (zI (cst F q p))), some (.int (zI ((r : Int)))), some (.int (zI ((cst F p r + cst F q r))))]) dX7_wedding_230 (by decide) rfl ?_
                                      refine EV.iinc (i := 8) (lv' := [some (.ref m), some (.int (zI ((p : Int)))), some (.int (zI ((q : Int)))), some (.int (zI (w))), some (.int (zI (wdF2 (wdS F p q (10 + r))))), some (.int (zI (wdW (wdS F p q (10 + r))))), some (.int (zI (cst F p q))), some (.int (zI (cst F q p))), some (.int (zI ((r : Int) + 1))), some (.int (zI ((cst F p r + cst F q r))))]) dX7_wedding_232 rfl (by decide) rfl ?_
                                      refine EV.goto (t := 149) dX7_wedding_235 (by decide) ?_
                                      refine EV.drop 9 (lv' := [some (.ref m), some (.int (zI ((p : Int)))), some (.int (zI ((q : Int)))), some (.int (zI (w))), some (.int (zI (wdF2 (wdS F p q (10 + r))))), some (.int (zI (wdW (wdS F p q (10 + r))))), some (.int (zI (cst F p q))), some (.int (zI (cst F q p))), some (.int (zI (((r : Int) + 1)))), none]) rfl ?_
                                      exact ih149 (r + 1) _ _ _ (by omega) (by omega) (congrArg wdF2 (wd2_n (wcr (by omega) c165 (by omega) (by omega)) (by omega) c201)) (congrArg wdW (wd2_n (wcr (by omega) c165 (by omega) (by omega)) (by omega) c201)) (rfl)
                                    · skip
                                      omega
                                  · skip
                                    refine EV.bipush dX7_wedding_204 (by decide) ?_
                                    refine EV.iload (i := 8) dX7_wedding_206 rfl ?_
                                    refine EV.iadd dX7_wedding_208 ?_
                                    refine EV.goto (t := 214) dX7_wedding_209 (by decide) ?_
                                    refine EV.istore (i := 5) (lv' := [some (.ref m), some (.int (zI ((p : Int)))), some (.int (zI ((q : Int)))), some (.int (zI (w))), some (.int (zI (wdF2 (wdS F p q (10 + r))))), some (.int (zI ((10 + (r : Int))))), some (.int (zI (cst F p q))), some (.int (zI (cst F q p))), some (.int (zI ((r : Int)))), some (.int (zI ((cst F p r + cst F q r))))]) dX7_wedding_214 (by decide) rfl ?_
                                    refine EV.iload (i := 9) dX7_wedding_216 rfl ?_
                                    refine EV.iload (i := 4) dX7_wedding_218 rfl ?_
                                    refine EV.icmp_ge (t := 228) dX7_wedding_220 (by decide) (by omega) (fun c220 => ?_) (fun c220 => ?_)
                                    · skip
                                      omega
                                    · skip
                                      refine EV.iload (i := 9) dX7_wedding_223 rfl ?_
                                      refine EV.goto (t := 230) dX7_wedding_225 (by decide) ?_
                                      refine EV.istore (i := 4) (lv' := [some (.ref m), some (.int (zI ((p : Int)))), some (.int (zI ((q : Int)))), some (.int (zI (w))), some (.int (zI ((cst F p r + cst F q r)))), some (.int (zI ((10 + (r : Int))))), some (.int (zI (cst F p q))), some (.int (zI (cst F q p))), some (.int (zI ((r : Int)))), some (.int (zI ((cst F p r + cst F q r))))]) dX7_wedding_230 (by decide) rfl ?_
                                      refine EV.iinc (i := 8) (lv' := [some (.ref m), some (.int (zI ((p : Int)))), some (.int (zI ((q : Int)))), some (.int (zI (w))), some (.int (zI ((cst F p r + cst F q r)))), some (.int (zI ((10 + (r : Int))))), some (.int (zI (cst F p q))), some (.int (zI (cst F q p))), some (.int (zI ((r : Int) + 1))), some (.int (zI ((cst F p r + cst F q r))))]) dX7_wedding_232 rfl (by decide) rfl ?_
                                      refine EV.goto (t := 149) dX7_wedding_235 (by decide) ?_
                                      refine EV.drop 9 (lv' := [some (.ref m), some (.int (zI ((p : Int)))), some (.int (zI ((q : Int)))), some (.int (zI (w))), some (.int (zI ((cst F p r + cst F q r)))), some (.int (zI ((10 + (r : Int))))), some (.int (zI (cst F p q))), some (.int (zI (cst F q p))), some (.int (zI (((r : Int) + 1)))), none]) rfl ?_
                                      exact ih149 (r + 1) _ _ _ (by omega) (by omega) ((wd2_y (wcr (by omega) c165 (by omega) (by omega)) (by omega)).1.symm) ((wd2_y (wcr (by omega) c165 (by omega) (by omega)) (by omega)).2.symm) (rfl)
                      exact L149 _ 0 _ _ _ (by omega) (Nat.lt_succ_self _) (congrArg wdF2 (wd_310 F p q)) (congrArg wdW (wd_310 F p q)) (rfl)
                · skip
                  omega
              · skip
                refine EV.iconst dX7_wedding_83 ?_
                refine EV.goto (t := 89) dX7_wedding_84 (by decide) ?_
                refine EV.istore (i := 5) (lv' := [some (.ref m), some (.int (zI ((p : Int)))), some (.int (zI ((q : Int)))), some (.int (zI (w))), some (.int (zI (wdF2 (wdS F p q 1)))), some (.int (zI (1))), some (.int (zI (cst F p q))), none, none, none]) dX7_wedding_89 (by decide) rfl ?_
                refine EV.iload (i := 6) dX7_wedding_91 rfl ?_
                refine EV.iload (i := 4) dX7_wedding_93 rfl ?_
                refine EV.icmp_ge (t := 103) dX7_wedding_95 (by decide) (by omega) (fun c95 => ?_) (fun c95 => ?_)
                · skip
                  omega
                · skip
                  refine EV.iload (i := 6) dX7_wedding_98 rfl ?_
                  refine EV.goto (t := 105) dX7_wedding_100 (by decide) ?_
                  refine EV.istore (i := 4) (lv' := [some (.ref m), some (.int (zI ((p : Int)))), some (.int (zI ((q : Int)))), some (.int (zI (w))), some (.int (zI (cst F p q))), some (.int (zI (1))), some (.int (zI (cst F p q))), none, none, none]) dX7_wedding_105 (by decide) rfl ?_
                  have c80x : cst F p q < wdF2 (wdS F p q 1) := by omega
                  refine EV.lvs (lv' := [some (.ref m), some (.int (zI ((p : Int)))), some (.int (zI ((q : Int)))), some (.int (zI (w))), some (.int (zI (wdF2 (wdS F p q 2)))), some (.int (zI (1))), some (.int (zI (cst F p q))), none, none, none]) (by rw [(wd2_y (rfl : wcost F p q 1 = some (cst F p q)) c80x).1]) ?_
                  refine EV.lvs (lv' := [some (.ref m), some (.int (zI ((p : Int)))), some (.int (zI ((q : Int)))), some (.int (zI (w))), some (.int (zI (wdF2 (wdS F p q 2)))), some (.int (zI (wdW (wdS F p q 2)))), some (.int (zI (cst F p q))), none, none, none]) (by rw [(wd2_y (rfl : wcost F p q 1 = some (cst F p q)) c80x).2]; rfl) ?_
                  have hb3 := wd2_in F p q 2
                  refine EV.aload_n (i := 0) dX7_wedding_107 rfl rfl ?_
                  refine EV.iload_n (i := 2) dX7_wedding_108 rfl rfl ?_
                  refine EV.iload_n (i := 1) dX7_wedding_109 rfl rfl ?_
                  refine EV.callVr (M' := mX7_costOf) (as := [.int (zI ((q : Int))), .int (zI ((p : Int)))]) (rest := []) ml_X7_116 im_X7_costOf se_X7_costOf rfl co_X7_costOf dX7_wedding_110 hcm (c_X7_costOf (d + 0) hM hW q p hq hp hbq hb) rfl rfl (Nat.le_of_ble_eq_true rfl) ?_
                  have hciqp := cst_in F q p
                  refine EV.istore (i := 7) (lv' := [some (.ref m), some (.int (zI ((p : Int)))), some (.int (zI ((q : Int)))), some (.int (zI (w))), some (.int (zI (wdF2 (wdS F p q 2)))), some (.int (zI (wdW (wdS F p q 2)))), some (.int (zI (cst F p q))), some (.int (zI (cst F q p))), none, none]) dX7_wedding_113 (by decide) rfl ?_
                  refine EV.iload (i := 7) dX7_wedding_115 rfl ?_
                  refine EV.iload (i := 4) dX7_wedding_117 rfl ?_
                  refine EV.icmp_ge (t := 126) dX7_wedding_119 (by decide) (by omega) (fun c119 => ?_) (fun c119 => ?_)
                  · skip
                    refine EV.iload (i := 5) dX7_wedding_126 rfl ?_
                    refine EV.istore (i := 5) (lv' := [some (.ref m), some (.int (zI ((p : Int)))), some (.int (zI ((q : Int)))), some (.int (zI (w))), some (.int (zI (wdF2 (wdS F p q 2)))), some (.int (zI (wdW (wdS F p q 2)))), some (.int (zI (cst F p q))), some (.int (zI (cst F q p))), none, none]) dX7_wedding_128 (by decide) rfl ?_
                    refine EV.iload (i := 7) dX7_wedding_130 rfl ?_
                    refine EV.iload (i := 4) dX7_wedding_132 rfl ?_
                    refine EV.icmp_ge (t := 142) dX7_wedding_134 (by decide) (by omega) (fun c134 => ?_) (fun c134 => ?_)
                    · skip
                      refine EV.iload (i := 4) dX7_wedding_142 rfl ?_
                      refine EV.istore (i := 4) (lv' := [some (.ref m), some (.int (zI ((p : Int)))), some (.int (zI ((q : Int)))), some (.int (zI (w))), some (.int (zI (wdF2 (wdS F p q 2)))), some (.int (zI (wdW (wdS F p q 2)))), some (.int (zI (cst F p q))), some (.int (zI (cst F q p))), none, none]) dX7_wedding_144 (by decide) rfl ?_
                      refine EV.lvs (lv' := [some (.ref m), some (.int (zI ((p : Int)))), some (.int (zI ((q : Int)))), some (.int (zI (w))), some (.int (zI (wdF2 (wdS F p q 3)))), some (.int (zI (wdW (wdS F p q 2)))), some (.int (zI (cst F p q))), some (.int (zI (cst F q p))), none, none]) (by rw [← wd2_n (rfl : wcost F p q 2 = some (cst F q p)) (by omega) c119]) ?_
                      refine EV.lvs (lv' := [some (.ref m), some (.int (zI ((p : Int)))), some (.int (zI ((q : Int)))), some (.int (zI (w))), some (.int (zI (wdF2 (wdS F p q 3)))), some (.int (zI (wdW (wdS F p q 3)))), some (.int (zI (cst F p q))), some (.int (zI (cst F q p))), none, none]) (by rw [← wd2_n (rfl : wcost F p q 2 = some (cst F q p)) (by omega) c119]) ?_
                      refine EV.iconst dX7_wedding_146 ?_
                      refine EV.istore (i := 8) (lv' := [some (.ref m), some (.int (zI ((p : Int)))), some (.int (zI ((q : Int)))), some (.int (zI (w))), some (.int (zI (wdF2 (wdS F p q 3)))), some (.int (zI (wdW (wdS F p q 3)))), some (.int (zI (cst F p q))), some (.int (zI (cst F q p))), some (.int (zI (0))), none]) dX7_wedding_147 (by decide) rfl ?_
                      have L149 : ∀ (n149 : Nat) (r : Nat) (x4 x5 x8 : Int), (r ≤ 6) → 6 - r < n149 → x4 = wdF2 (wdS F p q (10 + r)) → x5 = wdW (wdS F p q (10 + r)) → x8 = (r : Int) → EV G l mX7_wedding (d + 4) (RQ h (wedR F (p : Int) (q : Int) w)) 149 [some (.ref m), some (.int (zI ((p : Int)))), some (.int (zI ((q : Int)))), some (.int (zI (w))), some (.int (zI (x4))), some (.int (zI (x5))), some (.int (zI (cst F p q))), some (.int (zI (cst F q p))), some (.int (zI (x8))), none] [] h 0 0 := by
                        intro n149
                        induction n149 with
                        | zero => intro _ _ _ _ _ hm; exact absurd hm (Nat.not_lt_zero _)
                        | succ n149 ih149 =>
                          intro r x4 x5 x8 hr hm149 e4 e5 e8
                          subst e4 e5 e8
                          have hb4 := wd2_in F p q (10 + r)
                          refine EV.iload (i := 8) dX7_wedding_149 rfl ?_
                          refine EV.bipush dX7_wedding_151 (by decide) ?_
                          refine EV.icmp_ge (t := 238) dX7_wedding_153 (by decide) (by omega) (fun c153 => ?_) (fun c153 => ?_)
                          · skip
                            obtain rfl : r = 6 := by omega
                            refine EV.iload_n (i := 3) dX7_wedding_238 rfl rfl ?_
                            refine EV.ifne (t := 247) dX7_wedding_239 (by decide) (by omega) (fun c239 => ?_) (fun c239 => ?_)
                            · skip
                              refine EV.iload (i := 5) dX7_wedding_247 rfl ?_
                              refine EV.iret rfl dX7_wedding_249 ?_
                              exact rQ (by rw [wedR_c (twI_t c5 c13 c18) c29, if_neg c239]; rfl)
                            · skip
                              refine EV.iload (i := 4) dX7_wedding_242 rfl ?_
                              refine EV.goto (t := 249) dX7_wedding_244 (by decide) ?_
                              refine EV.iret rfl dX7_wedding_249 ?_
                              exact rQ (by rw [wedR_c (twI_t c5 c13 c18) c29, if_pos c239, Int.toNat_natCast, Int.toNat_natCast, wd_f2])
                          · skip
                            refine EV.aload_n (i := 0) dX7_wedding_156 rfl rfl ?_
                            refine EV.getf fl_X7_41 dX7_wedding_157 hcm rfl ?_
                            refine EV.iload (i := 8) dX7_wedding_160 rfl ?_
                            refine EV.callSr (M' := mX7_has) (as := [.int (zI ((F.1 : Int))), .int (zI ((r : Int)))]) (rest := []) ml_X7_49 sm_X7_has co_X7_has dX7_wedding_162 (c_X7_has (d + 2) F.1 r (by omega) (by omega)) rfl rfl (Nat.le_of_ble_eq_true rfl) ?_
                            refine EV.ifeqB (t := 232) dX7_wedding_165 (by decide) (fun c165 => ?_) (fun c165 => ?_)
                            · skip
                              refine EV.iinc (i := 8) (lv' := [some (.ref m), some (.int (zI ((p : Int)))), some (.int (zI ((q : Int)))), some (.int (zI (w))), some (.int (zI (wdF2 (wdS F p q (10 + r))))), some (.int (zI (wdW (wdS F p q (10 + r))))), some (.int (zI (cst F p q))), some (.int (zI (cst F q p))), some (.int (zI ((r : Int) + 1))), none]) dX7_wedding_232 rfl (by decide) rfl ?_
                              refine EV.goto (t := 149) dX7_wedding_235 (by decide) ?_
                              exact ih149 (r + 1) _ _ _ (by omega) (by omega) (congrArg wdF2 (wdS_n (n := 10 + r) (wcn (by omega) (fun r' h1 _ h3 _ _ => by obtain rfl : r' = r := (by omega); rw [c165] at h3; exact absurd h3 (by decide)))).symm) (congrArg wdW (wdS_n (n := 10 + r) (wcn (by omega) (fun r' h1 _ h3 _ _ => by obtain rfl : r' = r := (by omega); rw [c165] at h3; exact absurd h3 (by decide)))).symm) (rfl)
                            · skip
                              refine EV.iload (i := 8) dX7_wedding_168 rfl ?_
                              refine EV.iload_n (i := 1) dX7_wedding_170 rfl rfl ?_
                              refine EV.icmp_eq (t := 232) dX7_wedding_171 (by decide) (by omega) (fun c171 => ?_) (fun c171 => ?_)
                              · skip
                                refine EV.iinc (i := 8) (lv' := [some (.ref m), some (.int (zI ((p : Int)))), some (.int (zI ((q : Int)))), some (.int (zI (w))), some (.int (zI (wdF2 (wdS F p q (10 + r))))), some (.int (zI (wdW (wdS F p q (10 + r))))), some (.int (zI (cst F p q))), some (.int (zI (cst F q p))), some (.int (zI ((r : Int) + 1))), none]) dX7_wedding_232 rfl (by decide) rfl ?_
                                refine EV.goto (t := 149) dX7_wedding_235 (by decide) ?_
                                exact ih149 (r + 1) _ _ _ (by omega) (by omega) (congrArg wdF2 (wdS_n (n := 10 + r) (wcn (by omega) (fun r' h1 _ _ h4 _ => h4 (by omega)))).symm) (congrArg wdW (wdS_n (n := 10 + r) (wcn (by omega) (fun r' h1 _ _ h4 _ => h4 (by omega)))).symm) (rfl)
                              · skip
                                refine EV.iload (i := 8) dX7_wedding_174 rfl ?_
                                refine EV.iload_n (i := 2) dX7_wedding_176 rfl rfl ?_
                                refine EV.icmp_eq (t := 232) dX7_wedding_177 (by decide) (by omega) (fun c177 => ?_) (fun c177 => ?_)
                                · skip
                                  refine EV.iinc (i := 8) (lv' := [some (.ref m), some (.int (zI ((p : Int)))), some (.int (zI ((q : Int)))), some (.int (zI (w))), some (.int (zI (wdF2 (wdS F p q (10 + r))))), some (.int (zI (wdW (wdS F p q (10 + r))))), some (.int (zI (cst F p q))), some (.int (zI (cst F q p))), some (.int (zI ((r : Int) + 1))), none]) dX7_wedding_232 rfl (by decide) rfl ?_
                                  refine EV.goto (t := 149) dX7_wedding_235 (by decide) ?_
                                  exact ih149 (r + 1) _ _ _ (by omega) (by omega) (congrArg wdF2 (wdS_n (n := 10 + r) (wcn (by omega) (fun r' h1 _ _ _ h5 => h5 (by omega)))).symm) (congrArg wdW (wdS_n (n := 10 + r) (wcn (by omega) (fun r' h1 _ _ _ h5 => h5 (by omega)))).symm) (rfl)
                                · skip
                                  refine EV.aload_n (i := 0) dX7_wedding_180 rfl rfl ?_
                                  refine EV.iload_n (i := 1) dX7_wedding_181 rfl rfl ?_
                                  refine EV.iload (i := 8) dX7_wedding_182 rfl ?_
                                  refine EV.callVr (M' := mX7_costOf) (as := [.int (zI ((p : Int))), .int (zI ((r : Int)))]) (rest := []) ml_X7_116 im_X7_costOf se_X7_costOf rfl co_X7_costOf dX7_wedding_184 hcm (c_X7_costOf (d + 0) hM hW p r hp (by omega) hb c165) rfl rfl (Nat.le_of_ble_eq_true rfl) ?_
                                  have hcipr := cst_in F p r
                                  refine EV.aload_n (i := 0) dX7_wedding_187 rfl rfl ?_
                                  refine EV.iload_n (i := 2) dX7_wedding_188 rfl rfl ?_
                                  refine EV.iload (i := 8) dX7_wedding_189 rfl ?_
                                  refine EV.callVr (M' := mX7_costOf) (as := [.int (zI ((q : Int))), .int (zI ((r : Int)))]) (rest := [.int (zI (cst F p r))]) ml_X7_116 im_X7_costOf se_X7_costOf rfl co_X7_costOf dX7_wedding_191 hcm (c_X7_costOf (d + 0) hM hW q r hq (by omega) hbq c165) rfl rfl (Nat.le_of_ble_eq_true rfl) ?_
                                  have hciqr := cst_in F q r
                                  refine EV.iadd dX7_wedding_194 ?_
                                  refine EV.istore (i := 9) (lv' := [some (.ref m), some (.int (zI ((p : Int)))), some (.int (zI ((q : Int)))), some (.int (zI (w))), some (.int (zI (wdF2 (wdS F p q (10 + r))))), some (.int (zI (wdW (wdS F p q (10 + r))))), some (.int (zI (cst F p q))), some (.int (zI (cst F q p))), some (.int (zI ((r : Int)))), some (.int (zI ((cst F p r + cst F q r))))]) dX7_wedding_195 (by decide) rfl ?_
                                  refine EV.iload (i := 9) dX7_wedding_197 rfl ?_
                                  refine EV.iload (i := 4) dX7_wedding_199 rfl ?_
                                  refine EV.icmp_ge (t := 212) dX7_wedding_201 (by decide) (by omega) (fun c201 => ?_) (fun c201 => ?_)
                                  · skip
                                    refine EV.iload (i := 5) dX7_wedding_212 rfl ?_
                                    refine EV.istore (i := 5) (lv' := [some (.ref m), some (.int (zI ((p : Int)))), some (.int (zI ((q : Int)))), some (.int (zI (w))), some (.int (zI (wdF2 (wdS F p q (10 + r))))), some (.int (zI (wdW (wdS F p q (10 + r))))), some (.int (zI (cst F p q))), some (.int (zI (cst F q p))), some (.int (zI ((r : Int)))), some (.int (zI ((cst F p r + cst F q r))))]) dX7_wedding_214 (by decide) rfl ?_
                                    refine EV.iload (i := 9) dX7_wedding_216 rfl ?_
                                    refine EV.iload (i := 4) dX7_wedding_218 rfl ?_
                                    refine EV.icmp_ge (t := 228) dX7_wedding_220 (by decide) (by omega) (fun c220 => ?_) (fun c220 => ?_)
                                    · skip
                                      refine EV.iload (i := 4) dX7_wedding_228 rfl ?_
                                      refine EV.istore (i := 4) (lv' := [some (.ref m), some (.int (zI ((p : Int)))), some (.int (zI ((q : Int)))), some (.int (zI (w))), some (.int (zI (wdF2 (wdS F p q (10 + r))))), some (.int (zI (wdW (wdS F p q (10 + r))))), some (.int (zI (cst F p q))), some (.int (zI (cst F q p))), some (.int (zI ((r : Int)))), some (.int (zI ((cst F p r + cst F q r))))]) dX7_wedding_230 (by decide) rfl ?_
                                      refine EV.iinc (i := 8) (lv' := [some (.ref m), some (.int (zI ((p : Int)))), some (.int (zI ((q : Int)))), some (.int (zI (w))), some (.int (zI (wdF2 (wdS F p q (10 + r))))), some (.int (zI (wdW (wdS F p q (10 + r))))), some (.int (zI (cst F p q))), some (.int (zI (cst F q p))), some (.int (zI ((r : Int) + 1))), some (.int (zI ((cst F p r + cst F q r))))]) dX7_wedding_232 rfl (by decide) rfl ?_
                                      refine EV.goto (t := 149) dX7_wedding_235 (by decide) ?_
                                      refine EV.drop 9 (lv' := [some (.ref m), some (.int (zI ((p : Int)))), some (.int (zI ((q : Int)))), some (.int (zI (w))), some (.int (zI (wdF2 (wdS F p q (10 + r))))), some (.int (zI (wdW (wdS F p q (10 + r))))), some (.int (zI (cst F p q))), some (.int (zI (cst F q p))), some (.int (zI (((r : Int) + 1)))), none]) rfl ?_
                                      exact ih149 (r + 1) _ _ _ (by omega) (by omega) (congrArg wdF2 (wd2_n (wcr (by omega) c165 (by omega) (by omega)) (by omega) c201)) (congrArg wdW (wd2_n (wcr (by omega) c165 (by omega) (by omega)) (by omega) c201)) (rfl)
                                    · skip
                                      omega
                                  · skip
                                    refine EV.bipush dX7_wedding_204 (by decide) ?_
                                    refine EV.iload (i := 8) dX7_wedding_206 rfl ?_
                                    refine EV.iadd dX7_wedding_208 ?_
                                    refine EV.goto (t := 214) dX7_wedding_209 (by decide) ?_
                                    refine EV.istore (i := 5) (lv' := [some (.ref m), some (.int (zI ((p : Int)))), some (.int (zI ((q : Int)))), some (.int (zI (w))), some (.int (zI (wdF2 (wdS F p q (10 + r))))), some (.int (zI ((10 + (r : Int))))), some (.int (zI (cst F p q))), some (.int (zI (cst F q p))), some (.int (zI ((r : Int)))), some (.int (zI ((cst F p r + cst F q r))))]) dX7_wedding_214 (by decide) rfl ?_
                                    refine EV.iload (i := 9) dX7_wedding_216 rfl ?_
                                    refine EV.iload (i := 4) dX7_wedding_218 rfl ?_
                                    refine EV.icmp_ge (t := 228) dX7_wedding_220 (by decide) (by omega) (fun c220 => ?_) (fun c220 => ?_)
                                    · skip
                                      omega
                                    · skip
                                      refine EV.iload (i := 9) dX7_wedding_223 rfl ?_
                                      refine EV.goto (t := 230) dX7_wedding_225 (by decide) ?_
                                      refine EV.istore (i := 4) (lv' := [some (.ref m), some (.int (zI ((p : Int)))), some (.int (zI ((q : Int)))), some (.int (zI (w))), some (.int (zI ((cst F p r + cst F q r)))), some (.int (zI ((10 + (r : Int))))), some (.int (zI (cst F p q))), some (.int (zI (cst F q p))), some (.int (zI ((r : Int)))), some (.int (zI ((cst F p r + cst F q r))))]) dX7_wedding_230 (by decide) rfl ?_
                                      refine EV.iinc (i := 8) (lv' := [some (.ref m), some (.int (zI ((p : Int)))), some (.int (zI ((q : Int)))), some (.int (zI (w))), some (.int (zI ((cst F p r + cst F q r)))), some (.int (zI ((10 + (r : Int))))), some (.int (zI (cst F p q))), some (.int (zI (cst F q p))), some (.int (zI ((r : Int) + 1))), some (.int (zI ((cst F p r + cst F q r))))]) dX7_wedding_232 rfl (by decide) rfl ?_
                                      refine EV.goto (t := 149) dX7_wedding_235 (by decide) ?_
                                      refine EV.drop 9 (lv' := [some (.ref m), some (.int (zI ((p : Int)))), some (.int (zI ((q : Int)))), some (.int (zI (w))), some (.int (zI ((cst F p r + cst F q r)))), some (.int (zI ((10 + (r : Int))))), some (.int (zI (cst F p q))), some (.int (zI (cst F q p))), some (.int (zI (((r : Int) + 1)))), none]) rfl ?_
                                      exact ih149 (r + 1) _ _ _ (by omega) (by omega) ((wd2_y (wcr (by omega) c165 (by omega) (by omega)) (by omega)).1.symm) ((wd2_y (wcr (by omega) c165 (by omega) (by omega)) (by omega)).2.symm) (rfl)
                      exact L149 _ 0 _ _ _ (by omega) (Nat.lt_succ_self _) (congrArg wdF2 (wd_310 F p q)) (congrArg wdW (wd_310 F p q)) (rfl)
                    · skip
                      omega
                  · skip
                    refine EV.iconst dX7_wedding_122 ?_
                    refine EV.goto (t := 128) dX7_wedding_123 (by decide) ?_
                    refine EV.istore (i := 5) (lv' := [some (.ref m), some (.int (zI ((p : Int)))), some (.int (zI ((q : Int)))), some (.int (zI (w))), some (.int (zI (wdF2 (wdS F p q 2)))), some (.int (zI (2))), some (.int (zI (cst F p q))), some (.int (zI (cst F q p))), none, none]) dX7_wedding_128 (by decide) rfl ?_
                    refine EV.iload (i := 7) dX7_wedding_130 rfl ?_
                    refine EV.iload (i := 4) dX7_wedding_132 rfl ?_
                    refine EV.icmp_ge (t := 142) dX7_wedding_134 (by decide) (by omega) (fun c134 => ?_) (fun c134 => ?_)
                    · skip
                      omega
                    · skip
                      refine EV.iload (i := 7) dX7_wedding_137 rfl ?_
                      refine EV.goto (t := 144) dX7_wedding_139 (by decide) ?_
                      refine EV.istore (i := 4) (lv' := [some (.ref m), some (.int (zI ((p : Int)))), some (.int (zI ((q : Int)))), some (.int (zI (w))), some (.int (zI (cst F q p))), some (.int (zI (2))), some (.int (zI (cst F p q))), some (.int (zI (cst F q p))), none, none]) dX7_wedding_144 (by decide) rfl ?_
                      have c119x : cst F q p < wdF2 (wdS F p q 2) := by omega
                      refine EV.lvs (lv' := [some (.ref m), some (.int (zI ((p : Int)))), some (.int (zI ((q : Int)))), some (.int (zI (w))), some (.int (zI (wdF2 (wdS F p q 3)))), some (.int (zI (2))), some (.int (zI (cst F p q))), some (.int (zI (cst F q p))), none, none]) (by rw [(wd2_y (rfl : wcost F p q 2 = some (cst F q p)) c119x).1]) ?_
                      refine EV.lvs (lv' := [some (.ref m), some (.int (zI ((p : Int)))), some (.int (zI ((q : Int)))), some (.int (zI (w))), some (.int (zI (wdF2 (wdS F p q 3)))), some (.int (zI (wdW (wdS F p q 3)))), some (.int (zI (cst F p q))), some (.int (zI (cst F q p))), none, none]) (by rw [(wd2_y (rfl : wcost F p q 2 = some (cst F q p)) c119x).2]; rfl) ?_
                      refine EV.iconst dX7_wedding_146 ?_
                      refine EV.istore (i := 8) (lv' := [some (.ref m), some (.int (zI ((p : Int)))), some (.int (zI ((q : Int)))), some (.int (zI (w))), some (.int (zI (wdF2 (wdS F p q 3)))), some (.int (zI (wdW (wdS F p q 3)))), some (.int (zI (cst F p q))), some (.int (zI (cst F q p))), some (.int (zI (0))), none]) dX7_wedding_147 (by decide) rfl ?_
                      have L149 : ∀ (n149 : Nat) (r : Nat) (x4 x5 x8 : Int), (r ≤ 6) → 6 - r < n149 → x4 = wdF2 (wdS F p q (10 + r)) → x5 = wdW (wdS F p q (10 + r)) → x8 = (r : Int) → EV G l mX7_wedding (d + 4) (RQ h (wedR F (p : Int) (q : Int) w)) 149 [some (.ref m), some (.int (zI ((p : Int)))), some (.int (zI ((q : Int)))), some (.int (zI (w))), some (.int (zI (x4))), some (.int (zI (x5))), some (.int (zI (cst F p q))), some (.int (zI (cst F q p))), some (.int (zI (x8))), none] [] h 0 0 := by
                        intro n149
                        induction n149 with
                        | zero => intro _ _ _ _ _ hm; exact absurd hm (Nat.not_lt_zero _)
                        | succ n149 ih149 =>
                          intro r x4 x5 x8 hr hm149 e4 e5 e8
                          subst e4 e5 e8
                          have hb4 := wd2_in F p q (10 + r)
                          refine EV.iload (i := 8) dX7_wedding_149 rfl ?_
                          refine EV.bipush dX7_wedding_151 (by decide) ?_
                          refine EV.icmp_ge (t := 238) dX7_wedding_153 (by decide) (by omega) (fun c153 => ?_) (fun c153 => ?_)
                          · skip
                            obtain rfl : r = 6 := by omega
                            refine EV.iload_n (i := 3) dX7_wedding_238 rfl rfl ?_
                            refine EV.ifne (t := 247) dX7_wedding_239 (by decide) (by omega) (fun c239 => ?_) (fun c239 => ?_)
                            · skip
                              refine EV.iload (i := 5) dX7_wedding_247 rfl ?_
                              refine EV.iret rfl dX7_wedding_249 ?_
                              exact rQ (by rw [wedR_c (twI_t c5 c13 c18) c29, if_neg c239]; rfl)
                            · skip
                              refine EV.iload (i := 4) dX7_wedding_242 rfl ?_
                              refine EV.goto (t := 249) dX7_wedding_244 (by decide) ?_
                              refine EV.iret rfl dX7_wedding_249 ?_
                              exact rQ (by rw [wedR_c (twI_t c5 c13 c18) c29, if_pos c239, Int.toNat_natCast, Int.toNat_natCast, wd_f2])
                          · skip
                            refine EV.aload_n (i := 0) dX7_wedding_156 rfl rfl ?_
                            refine EV.getf fl_X7_41 dX7_wedding_157 hcm rfl ?_
                            refine EV.iload (i := 8) dX7_wedding_160 rfl ?_
                            refine EV.callSr (M' := mX7_has) (as := [.int (zI ((F.1 : Int))), .int (zI ((r : Int)))]) (rest := []) ml_X7_49 sm_X7_has co_X7_has dX7_wedding_162 (c_X7_has (d + 2) F.1 r (by omega) (by omega)) rfl rfl (Nat.le_of_ble_eq_true rfl) ?_
                            refine EV.ifeqB (t := 232) dX7_wedding_165 (by decide) (fun c165 => ?_) (fun c165 => ?_)
                            · skip
                              refine EV.iinc (i := 8) (lv' := [some (.ref m), some (.int (zI ((p : Int)))), some (.int (zI ((q : Int)))), some (.int (zI (w))), some (.int (zI (wdF2 (wdS F p q (10 + r))))), some (.int (zI (wdW (wdS F p q (10 + r))))), some (.int (zI (cst F p q))), some (.int (zI (cst F q p))), some (.int (zI ((r : Int) + 1))), none]) dX7_wedding_232 rfl (by decide) rfl ?_
                              refine EV.goto (t := 149) dX7_wedding_235 (by decide) ?_
                              exact ih149 (r + 1) _ _ _ (by omega) (by omega) (congrArg wdF2 (wdS_n (n := 10 + r) (wcn (by omega) (fun r' h1 _ h3 _ _ => by obtain rfl : r' = r := (by omega); rw [c165] at h3; exact absurd h3 (by decide)))).symm) (congrArg wdW (wdS_n (n := 10 + r) (wcn (by omega) (fun r' h1 _ h3 _ _ => by obtain rfl : r' = r := (by omega); rw [c165] at h3; exact absurd h3 (by decide)))).symm) (rfl)
                            · skip
                              refine EV.iload (i := 8) dX7_wedding_168 rfl ?_
                              refine EV.iload_n (i := 1) dX7_wedding_170 rfl rfl ?_
                              refine EV.icmp_eq (t := 232) dX7_wedding_171 (by decide) (by omega) (fun c171 => ?_) (fun c171 => ?_)
                              · skip
                                refine EV.iinc (i := 8) (lv' := [some (.ref m), some (.int (zI ((p : Int)))), some (.int (zI ((q : Int)))), some (.int (zI (w))), some (.int (zI (wdF2 (wdS F p q (10 + r))))), some (.int (zI (wdW (wdS F p q (10 + r))))), some (.int (zI (cst F p q))), some (.int (zI (cst F q p))), some (.int (zI ((r : Int) + 1))), none]) dX7_wedding_232 rfl (by decide) rfl ?_
                                refine EV.goto (t := 149) dX7_wedding_235 (by decide) ?_
                                exact ih149 (r + 1) _ _ _ (by omega) (by omega) (congrArg wdF2 (wdS_n (n := 10 + r) (wcn (by omega) (fun r' h1 _ _ h4 _ => h4 (by omega)))).symm) (congrArg wdW (wdS_n (n := 10 + r) (wcn (by omega) (fun r' h1 _ _ h4 _ => h4 (by omega)))).symm) (rfl)
                              · skip
                                refine EV.iload (i := 8) dX7_wedding_174 rfl ?_
                                refine EV.iload_n (i := 2) dX7_wedding_176 rfl rfl ?_
                                refine EV.icmp_eq (t := 232) dX7_wedding_177 (by decide) (by omega) (fun c177 => ?_) (fun c177 => ?_)
                                · skip
                                  refine EV.iinc (i := 8) (lv' := [some (.ref m), some (.int (zI ((p : Int)))), some (.int (zI ((q : Int)))), some (.int (zI (w))), some (.int (zI (wdF2 (wdS F p q (10 + r))))), some (.int (zI (wdW (wdS F p q (10 + r))))), some (.int (zI (cst F p q))), some (.int (zI (cst F q p))), some (.int (zI ((r : Int) + 1))), none]) dX7_wedding_232 rfl (by decide) rfl ?_
                                  refine EV.goto (t := 149) dX7_wedding_235 (by decide) ?_
                                  exact ih149 (r + 1) _ _ _ (by omega) (by omega) (congrArg wdF2 (wdS_n (n := 10 + r) (wcn (by omega) (fun r' h1 _ _ _ h5 => h5 (by omega)))).symm) (congrArg wdW (wdS_n (n := 10 + r) (wcn (by omega) (fun r' h1 _ _ _ h5 => h5 (by omega)))).symm) (rfl)
                                · skip
                                  refine EV.aload_n (i := 0) dX7_wedding_180 rfl rfl ?_
                                  refine EV.iload_n (i := 1) dX7_wedding_181 rfl rfl ?_
                                  refine EV.iload (i := 8) dX7_wedding_182 rfl ?_
                                  refine EV.callVr (M' := mX7_costOf) (as := [.int (zI ((p : Int))), .int (zI ((r : Int)))]) (rest := []) ml_X7_116 im_X7_costOf se_X7_costOf rfl co_X7_costOf dX7_wedding_184 hcm (c_X7_costOf (d + 0) hM hW p r hp (by omega) hb c165) rfl rfl (Nat.le_of_ble_eq_true rfl) ?_
                                  have hcipr := cst_in F p r
                                  refine EV.aload_n (i := 0) dX7_wedding_187 rfl rfl ?_
                                  refine EV.iload_n (i := 2) dX7_wedding_188 rfl rfl ?_
                                  refine EV.iload (i := 8) dX7_wedding_189 rfl ?_
                                  refine EV.callVr (M' := mX7_costOf) (as := [.int (zI ((q : Int))), .int (zI ((r : Int)))]) (rest := [.int (zI (cst F p r))]) ml_X7_116 im_X7_costOf se_X7_costOf rfl co_X7_costOf dX7_wedding_191 hcm (c_X7_costOf (d + 0) hM hW q r hq (by omega) hbq c165) rfl rfl (Nat.le_of_ble_eq_true rfl) ?_
                                  have hciqr := cst_in F q r
                                  refine EV.iadd dX7_wedding_194 ?_
                                  refine EV.istore (i := 9) (lv' := [some (.ref m), some (.int (zI ((p : Int)))), some (.int (zI ((q : Int)))), some (.int (zI (w))), some (.int (zI (wdF2 (wdS F p q (10 + r))))), some (.int (zI (wdW (wdS F p q (10 + r))))), some (.int (zI (cst F p q))), some (.int (zI (cst F q p))), some (.int (zI ((r : Int)))), some (.int (zI ((cst F p r + cst F q r))))]) dX7_wedding_195 (by decide) rfl ?_
                                  refine EV.iload (i := 9) dX7_wedding_197 rfl ?_
                                  refine EV.iload (i := 4) dX7_wedding_199 rfl ?_
                                  refine EV.icmp_ge (t := 212) dX7_wedding_201 (by decide) (by omega) (fun c201 => ?_) (fun c201 => ?_)
                                  · skip
                                    refine EV.iload (i := 5) dX7_wedding_212 rfl ?_
                                    refine EV.istore (i := 5) (lv' := [some (.ref m), some (.int (zI ((p : Int)))), some (.int (zI ((q : Int)))), some (.int (zI (w))), some (.int (zI (wdF2 (wdS F p q (10 + r))))), some (.int (zI (wdW (wdS F p q (10 + r))))), some (.int (zI (cst F p q))), some (.int (zI (cst F q p))), some (.int (zI ((r : Int)))), some (.int (zI ((cst F p r + cst F q r))))]) dX7_wedding_214 (by decide) rfl ?_
                                    refine EV.iload (i := 9) dX7_wedding_216 rfl ?_
                                    refine EV.iload (i := 4) dX7_wedding_218 rfl ?_
                                    refine EV.icmp_ge (t := 228) dX7_wedding_220 (by decide) (by omega) (fun c220 => ?_) (fun c220 => ?_)
                                    · skip
                                      refine EV.iload (i := 4) dX7_wedding_228 rfl ?_
                                      refine EV.istore (i := 4) (lv' := [some (.ref m), some (.int (zI ((p : Int)))), some (.int (zI ((q : Int)))), some (.int (zI (w))), some (.int (zI (wdF2 (wdS F p q (10 + r))))), some (.int (zI (wdW (wdS F p q (10 + r))))), some (.int (zI (cst F p q))), some (.int (zI (cst F q p))), some (.int (zI ((r : Int)))), some (.int (zI ((cst F p r + cst F q r))))]) dX7_wedding_230 (by decide) rfl ?_
                                      refine EV.iinc (i := 8) (lv' := [some (.ref m), some (.int (zI ((p : Int)))), some (.int (zI ((q : Int)))), some (.int (zI (w))), some (.int (zI (wdF2 (wdS F p q (10 + r))))), some (.int (zI (wdW (wdS F p q (10 + r))))), some (.int (zI (cst F p q))), some (.int (zI (cst F q p))), some (.int (zI ((r : Int) + 1))), some (.int (zI ((cst F p r + cst F q r))))]) dX7_wedding_232 rfl (by decide) rfl ?_
                                      refine EV.goto (t := 149) dX7_wedding_235 (by decide) ?_
                                      refine EV.drop 9 (lv' := [some (.ref m), some (.int (zI ((p : Int)))), some (.int (zI ((q : Int)))), some (.int (zI (w))), some (.int (zI (wdF2 (wdS F p q (10 + r))))), some (.int (zI (wdW (wdS F p q (10 + r))))), some (.int (zI (cst F p q))), some (.int (zI (cst F q p))), some (.int (zI (((r : Int) + 1)))), none]) rfl ?_
                                      exact ih149 (r + 1) _ _ _ (by omega) (by omega) (congrArg wdF2 (wd2_n (wcr (by omega) c165 (by omega) (by omega)) (by omega) c201)) (congrArg wdW (wd2_n (wcr (by omega) c165 (by omega) (by omega)) (by omega) c201)) (rfl)
                                    · skip
                                      omega
                                  · skip
                                    refine EV.bipush dX7_wedding_204 (by decide) ?_
                                    refine EV.iload (i := 8) dX7_wedding_206 rfl ?_
                                    refine EV.iadd dX7_wedding_208 ?_
                                    refine EV.goto (t := 214) dX7_wedding_209 (by decide) ?_
                                    refine EV.istore (i := 5) (lv' := [some (.ref m), some (.int (zI ((p : Int)))), some (.int (zI ((q : Int)))), some (.int (zI (w))), some (.int (zI (wdF2 (wdS F p q (10 + r))))), some (.int (zI ((10 + (r : Int))))), some (.int (zI (cst F p q))), some (.int (zI (cst F q p))), some (.int (zI ((r : Int)))), some (.int (zI ((cst F p r + cst F q r))))]) dX7_wedding_214 (by decide) rfl ?_
                                    refine EV.iload (i := 9) dX7_wedding_216 rfl ?_
                                    refine EV.iload (i := 4) dX7_wedding_218 rfl ?_
                                    refine EV.icmp_ge (t := 228) dX7_wedding_220 (by decide) (by omega) (fun c220 => ?_) (fun c220 => ?_)
                                    · skip
                                      omega
                                    · skip
                                      refine EV.iload (i := 9) dX7_wedding_223 rfl ?_
                                      refine EV.goto (t := 230) dX7_wedding_225 (by decide) ?_
                                      refine EV.istore (i := 4) (lv' := [some (.ref m), some (.int (zI ((p : Int)))), some (.int (zI ((q : Int)))), some (.int (zI (w))), some (.int (zI ((cst F p r + cst F q r)))), some (.int (zI ((10 + (r : Int))))), some (.int (zI (cst F p q))), some (.int (zI (cst F q p))), some (.int (zI ((r : Int)))), some (.int (zI ((cst F p r + cst F q r))))]) dX7_wedding_230 (by decide) rfl ?_
                                      refine EV.iinc (i := 8) (lv' := [some (.ref m), some (.int (zI ((p : Int)))), some (.int (zI ((q : Int)))), some (.int (zI (w))), some (.int (zI ((cst F p r + cst F q r)))), some (.int (zI ((10 + (r : Int))))), some (.int (zI (cst F p q))), some (.int (zI (cst F q p))), some (.int (zI ((r : Int) + 1))), some (.int (zI ((cst F p r + cst F q r))))]) dX7_wedding_232 rfl (by decide) rfl ?_
                                      refine EV.goto (t := 149) dX7_wedding_235 (by decide) ?_
                                      refine EV.drop 9 (lv' := [some (.ref m), some (.int (zI ((p : Int)))), some (.int (zI ((q : Int)))), some (.int (zI (w))), some (.int (zI ((cst F p r + cst F q r)))), some (.int (zI ((10 + (r : Int))))), some (.int (zI (cst F p q))), some (.int (zI (cst F q p))), some (.int (zI (((r : Int) + 1)))), none]) rfl ?_
                                      exact ih149 (r + 1) _ _ _ (by omega) (by omega) ((wd2_y (wcr (by omega) c165 (by omega) (by omega)) (by omega)).1.symm) ((wd2_y (wcr (by omega) c165 (by omega) (by omega)) (by omega)).2.symm) (rfl)
                      exact L149 _ 0 _ _ _ (by omega) (Nat.lt_succ_self _) (congrArg wdF2 (wd_310 F p q)) (congrArg wdW (wd_310 F p q)) (rfl)
        · skip
          have c29r := of_nrg c29
          refine EV.bipush dX7_wedding_32 (by decide) ?_
          refine EV.iret rfl dX7_wedding_34 ?_
          exact rQ (by rw [wedR, if_pos (twI_t c5 c13 c18), if_neg (by rw [c29]; decide)])
      · skip
        refine EV.iconst dX7_wedding_21 ?_
        refine EV.iret rfl dX7_wedding_22 ?_
        exact rQ (by rw [wedR, if_neg (by rw [twI_f1 (Or.inr (Or.inr c18))]; decide)])
end
