/-- the best order so far, as the reference counts them -/
theorem bs2_n {F : FK} {bi : Int} {w : Nat} (h : fsh F ((w % 7 : Nat) : Int) ((w / 7 : Nat) : Int) bi 6 ≤ (bsS F bi w).1) : bsS F bi w = bsS F bi (w + 1) := by
  rw [bsS, if_neg (by omega)]
theorem bs2_y {F : FK} {bi : Int} {w : Nat} (h : (bsS F bi w).1 < fsh F ((w % 7 : Nat) : Int) ((w / 7 : Nat) : Int) bi 6) : bsS F bi (w + 1) = (fsh F ((w % 7 : Nat) : Int) ((w / 7 : Nat) : Int) bi 6, 10 * ((w / 7 : Nat) : Int) + ((w % 7 : Nat) : Int)) := by
  rw [bsS, if_pos h]
theorem fs_n {F : FK} {tu wy bi : Int} {p : Nat} (h : F.1.testBit p = false) : fsh F tu wy bi p = fsh F tu wy bi (p + 1) := by rw [fsh, h]; rfl
theorem fs_k {F : FK} {tu wy bi : Int} {p : Nat} (h : fsh F tu wy bi p ≤ ((cnt (bsB F tu wy bi p) 14 : Nat) : Int)) : fsh F tu wy bi p = fsh F tu wy bi (p + 1) := by
  rw [fsh]
  split
  · rw [if_neg (by omega)]
  · rfl
theorem fs_y {F : FK} {tu wy bi : Int} {p : Nat} (hb : F.1.testBit p = true) (h : ((cnt (bsB F tu wy bi p) 14 : Nat) : Int) < fsh F tu wy bi p) : ((cnt (bsB F tu wy bi p) 14 : Nat) : Int) = fsh F tu wy bi (p + 1) := by
  rw [fsh, if_pos hb, if_pos h]
section
variable {G : GG} {l : Launch}
variable {h : Hp} {m : Nat} {A : Nat → Nat} {F : FK} {P : PL} {T : ST} {K : PD} {la im ik : Nat → Int}
set_option maxHeartbeats 4000000 in
set_option maxRecDepth 20000 in
theorem c_X7_best (d : Nat) (hM : ModAt G h m A F P T K la im ik) (hW : WF F) (hK : WFK K) (hP : WFP P) (hT : WFT T) (b u : Int) (hb : inR b) (hu : inR u) : CT G l mX7_best (d + 3) 0 0 [.ref m, .int (zI (b)), .int (zI (u))] h (RQ h (bestR F b u)) := by
  refine CT.of (by decide) (Nat.le_of_ble_eq_true rfl) (List.forall_mem_cons.mpr ⟨rfl, List.forall_mem_cons.mpr ⟨rfl, List.forall_mem_cons.mpr ⟨rfl, fun _ h => absurd h List.not_mem_nil⟩⟩⟩) ?_
  refine EV.lvs (lv' := [some (.ref m), some (.int (zI (b))), some (.int (zI (u))), none, none, none, none, none, none, none]) rfl ?_
  have ⟨hcm, hc0, hc1, hc2, hc3, hc4, hc5, hc6, hc7, hc8, hc9⟩ := hM
  have hth := hW.1
  have hK6 := hK.1
  have hP6 := hP.1
  have hT6 := hT.1
  have hsf : ∀ q, q < 6 → F.1.testBit q = true → F.1.testBit q = true := fun _ _ z => z
  refine EV.iload_n (i := 1) dX7_best_0 rfl rfl ?_
  refine EV.iconst dX7_best_1 ?_
  refine EV.bipush dX7_best_2 (by decide) ?_
  refine EV.callSr (M' := mX7_in) (as := [.int (zI (b)), .int (zI (0)), .int (zI (99))]) (rest := []) ml_X7_45 sm_X7_in co_X7_in dX7_best_4 (c_X7_in (d + 1) b 0 99 (by omega) (by omega) (by omega)) rfl rfl (Nat.le_of_ble_eq_true rfl) ?_
  refine EV.ifeqB (t := 19) dX7_best_7 (by decide) (fun c7 => ?_) (fun c7 => ?_)
  · skip
    have c7r := of_nrg c7
    refine EV.bipush dX7_best_19 (by decide) ?_
    refine EV.iret rfl dX7_best_21 ?_
    exact rQ (by simp [bestR, c7])
  · skip
    have c7r := of_rg c7
    refine EV.iload_n (i := 2) dX7_best_10 rfl rfl ?_
    refine EV.iconst dX7_best_11 ?_
    refine EV.iconst dX7_best_12 ?_
    refine EV.callSr (M' := mX7_in) (as := [.int (zI (u)), .int (zI (0)), .int (zI (1))]) (rest := []) ml_X7_45 sm_X7_in co_X7_in dX7_best_13 (c_X7_in (d + 1) u 0 1 (by omega) (by omega) (by omega)) rfl rfl (Nat.le_of_ble_eq_true rfl) ?_
    refine EV.ifneB (t := 22) dX7_best_16 (by decide) (fun c16 => ?_) (fun c16 => ?_)
    · skip
      have c16r := of_rg c16
      refine EV.iconst dX7_best_22 ?_
      refine EV.istore_n (i := 3) (lv' := [some (.ref m), some (.int (zI (b))), some (.int (zI (u))), some (.int (zI ((-1)))), none, none, none, none, none, none]) dX7_best_23 rfl (by decide) rfl ?_
      refine EV.bipush dX7_best_24 (by decide) ?_
      refine EV.istore (i := 4) (lv' := [some (.ref m), some (.int (zI (b))), some (.int (zI (u))), some (.int (zI ((-1)))), some (.int (zI ((-6)))), none, none, none, none, none]) dX7_best_26 (by decide) rfl ?_
      refine EV.iconst dX7_best_28 ?_
      refine EV.istore (i := 5) (lv' := [some (.ref m), some (.int (zI (b))), some (.int (zI (u))), some (.int (zI ((-1)))), some (.int (zI ((-6)))), some (.int (zI (0))), none, none, none, none]) dX7_best_29 (by decide) rfl ?_
      have L31 : ∀ (n31 : Nat) (w : Nat) (x3 x4 x5 : Int), (w ≤ 14) → 14 - w < n31 → x3 = (bsS F b w).1 → x4 = (bsS F b w).2 → x5 = (w : Int) → EV G l mX7_best (d + 3) (RQ h (bestR F b u)) 31 [some (.ref m), some (.int (zI (b))), some (.int (zI (u))), some (.int (zI (x3))), some (.int (zI (x4))), some (.int (zI (x5))), none, none, none, none] [] h 0 0 := by
        intro n31
        induction n31 with
        | zero => intro _ _ _ _ _ hm; exact absurd hm (Nat.not_lt_zero _)
        | succ n31 ih31 =>
          intro w x3 x4 x5 hw hm31 e3 e4 e5
          subst e3 e4 e5
          have hbi := bs_in F b w
          refine EV.iload (i := 5) dX7_best_31 rfl ?_
          refine EV.bipush dX7_best_33 (by decide) ?_
          refine EV.icmp_ge (t := 193) dX7_best_35 (by decide) (by omega) (fun c35 => ?_) (fun c35 => ?_)
          · skip
            obtain rfl : w = 14 := by omega
            refine EV.iload_n (i := 2) dX7_best_193 rfl rfl ?_
            refine EV.ifne (t := 201) dX7_best_194 (by decide) (by omega) (fun c194 => ?_) (fun c194 => ?_)
            · skip
              refine EV.iload (i := 4) dX7_best_201 rfl ?_
              refine EV.iret rfl dX7_best_203 ?_
              exact rQ (by rw [bestR, if_pos (by rw [c7, c16]; rfl), if_neg c194])
            · skip
              refine EV.iload_n (i := 3) dX7_best_197 rfl rfl ?_
              refine EV.goto (t := 203) dX7_best_198 (by decide) ?_
              refine EV.iret rfl dX7_best_203 ?_
              exact rQ (by rw [bestR, if_pos (by rw [c7, c16]; rfl), if_pos c194])
          · skip
            refine EV.bipush dX7_best_38 (by decide) ?_
            refine EV.istore (i := 6) (lv' := [some (.ref m), some (.int (zI (b))), some (.int (zI (u))), some (.int (zI ((bsS F b w).1))), some (.int (zI ((bsS F b w).2))), some (.int (zI ((w : Int)))), some (.int (zI (14))), none, none, none]) dX7_best_40 (by decide) rfl ?_
            refine EV.iconst dX7_best_42 ?_
            refine EV.istore (i := 7) (lv' := [some (.ref m), some (.int (zI (b))), some (.int (zI (u))), some (.int (zI ((bsS F b w).1))), some (.int (zI ((bsS F b w).2))), some (.int (zI ((w : Int)))), some (.int (zI (14))), some (.int (zI (0))), none, none]) dX7_best_43 (by decide) rfl ?_
            have L45 : ∀ (n45 : Nat) (p : Nat) (x6 x7 : Int), (p ≤ 6) → 6 - p < n45 → x6 = fsh F ((w % 7 : Nat) : Int) ((w / 7 : Nat) : Int) b p → x7 = (p : Int) → EV G l mX7_best (d + 3) (RQ h (bestR F b u)) 45 [some (.ref m), some (.int (zI (b))), some (.int (zI (u))), some (.int (zI ((bsS F b w).1))), some (.int (zI ((bsS F b w).2))), some (.int (zI ((w : Int)))), some (.int (zI (x6))), some (.int (zI (x7))), none, none] [] h 0 0 := by
              intro n45
              induction n45 with
              | zero => intro _ _ _ _ hm; exact absurd hm (Nat.not_lt_zero _)
              | succ n45 ih45 =>
                intro p x6 x7 hp hm45 e6 e7
                subst e6 e7
                have hfi := fsh_in F ((w % 7 : Nat) : Int) ((w / 7 : Nat) : Int) b p
                refine EV.iload (i := 7) dX7_best_45 rfl ?_
                refine EV.bipush dX7_best_47 (by decide) ?_
                refine EV.icmp_ge (t := 147) dX7_best_49 (by decide) (by omega) (fun c49 => ?_) (fun c49 => ?_)
                · skip
                  obtain rfl : p = 6 := by omega
                  refine EV.iload (i := 6) dX7_best_147 rfl ?_
                  refine EV.iload_n (i := 3) dX7_best_149 rfl rfl ?_
                  refine EV.icmp_le (t := 170) dX7_best_150 (by decide) (by omega) (fun c150 => ?_) (fun c150 => ?_)
                  · skip
                    refine EV.iload (i := 4) dX7_best_170 rfl ?_
                    refine EV.istore (i := 4) (lv' := [some (.ref m), some (.int (zI (b))), some (.int (zI (u))), some (.int (zI ((bsS F b w).1))), some (.int (zI ((bsS F b w).2))), some (.int (zI ((w : Int)))), some (.int (zI (fsh F ((w % 7 : Nat) : Int) ((w / 7 : Nat) : Int) b (6 : Nat)))), some (.int (zI (((6 : Nat) : Int)))), none, none]) dX7_best_172 (by decide) rfl ?_
                    refine EV.iload (i := 6) dX7_best_174 rfl ?_
                    refine EV.iload_n (i := 3) dX7_best_176 rfl rfl ?_
                    refine EV.icmp_le (t := 185) dX7_best_177 (by decide) (by omega) (fun c177 => ?_) (fun c177 => ?_)
                    · skip
                      refine EV.iload_n (i := 3) dX7_best_185 rfl rfl ?_
                      have y1 : (bsS F b w).1 = (bsS F b (w + 1)).1 := by rw [bs2_n c150]
                      have y2 : (bsS F b w).2 = (bsS F b (w + 1)).2 := by rw [bs2_n c150]
                      refine EV.istore_n (i := 3) (lv' := [some (.ref m), some (.int (zI (b))), some (.int (zI (u))), some (.int (zI ((bsS F b w).1))), some (.int (zI ((bsS F b w).2))), some (.int (zI ((w : Int)))), some (.int (zI (fsh F ((w % 7 : Nat) : Int) ((w / 7 : Nat) : Int) b (6 : Nat)))), some (.int (zI (((6 : Nat) : Int)))), none, none]) dX7_best_186 rfl (by decide) rfl ?_
                      refine EV.iinc (i := 5) (lv' := [some (.ref m), some (.int (zI (b))), some (.int (zI (u))), some (.int (zI ((bsS F b w).1))), some (.int (zI ((bsS F b w).2))), some (.int (zI ((w : Int) + 1))), some (.int (zI (fsh F ((w % 7 : Nat) : Int) ((w / 7 : Nat) : Int) b (6 : Nat)))), some (.int (zI (((6 : Nat) : Int)))), none, none]) dX7_best_187 rfl (by decide) rfl ?_
                      refine EV.goto (t := 31) dX7_best_190 (by decide) ?_
                      refine EV.drop 6 (lv' := [some (.ref m), some (.int (zI (b))), some (.int (zI (u))), some (.int (zI ((bsS F b w).1))), some (.int (zI ((bsS F b w).2))), some (.int (zI (((w : Int) + 1)))), none, some (.int (zI (((6 : Nat) : Int)))), none, none]) rfl ?_
                      refine EV.drop 7 (lv' := [some (.ref m), some (.int (zI (b))), some (.int (zI (u))), some (.int (zI ((bsS F b w).1))), some (.int (zI ((bsS F b w).2))), some (.int (zI (((w : Int) + 1)))), none, none, none, none]) rfl ?_
                      exact ih31 (w + 1) _ _ _ (by omega) (by omega) (y1) (y2) (rfl)
                    · skip
                      omega
                  · skip
                    refine EV.bipush dX7_best_153 (by decide) ?_
                    refine EV.iload (i := 5) dX7_best_155 rfl ?_
                    refine EV.bipush dX7_best_157 (by decide) ?_
                    refine EV.idiv dX7_best_159 (by omega) ?_
                    refine EV.top (y := zI (((w / 7 : Nat) : Int))) (by rw [Int.tdiv_eq_ediv_of_nonneg (by omega)]; rfl) ?_
                    refine EV.imul dX7_best_160 ?_
                    refine EV.iload (i := 5) dX7_best_161 rfl ?_
                    refine EV.bipush dX7_best_163 (by decide) ?_
                    refine EV.irem dX7_best_165 (by omega) ?_
                    refine EV.top (y := zI (((w % 7 : Nat) : Int))) (by rw [Int.tmod_eq_emod_of_nonneg (by omega)]; rfl) ?_
                    refine EV.iadd dX7_best_166 ?_
                    refine EV.goto (t := 172) dX7_best_167 (by decide) ?_
                    refine EV.istore (i := 4) (lv' := [some (.ref m), some (.int (zI (b))), some (.int (zI (u))), some (.int (zI ((bsS F b w).1))), some (.int (zI (((10 * ((w / 7 : Nat) : Int)) + ((w % 7 : Nat) : Int))))), some (.int (zI ((w : Int)))), some (.int (zI (fsh F ((w % 7 : Nat) : Int) ((w / 7 : Nat) : Int) b (6 : Nat)))), some (.int (zI (((6 : Nat) : Int)))), none, none]) dX7_best_172 (by decide) rfl ?_
                    refine EV.iload (i := 6) dX7_best_174 rfl ?_
                    refine EV.iload_n (i := 3) dX7_best_176 rfl rfl ?_
                    refine EV.icmp_le (t := 185) dX7_best_177 (by decide) (by omega) (fun c177 => ?_) (fun c177 => ?_)
                    · skip
                      omega
                    · skip
                      refine EV.iload (i := 6) dX7_best_180 rfl ?_
                      refine EV.goto (t := 186) dX7_best_182 (by decide) ?_
                      have y1 : fsh F ((w % 7 : Nat) : Int) ((w / 7 : Nat) : Int) b 6 = (bsS F b (w + 1)).1 := by rw [bs2_y (by omega)]
                      have y2 : 10 * ((w / 7 : Nat) : Int) + ((w % 7 : Nat) : Int) = (bsS F b (w + 1)).2 := by rw [bs2_y (by omega)]
                      refine EV.istore_n (i := 3) (lv' := [some (.ref m), some (.int (zI (b))), some (.int (zI (u))), some (.int (zI (fsh F ((w % 7 : Nat) : Int) ((w / 7 : Nat) : Int) b (6 : Nat)))), some (.int (zI (((10 * ((w / 7 : Nat) : Int)) + ((w % 7 : Nat) : Int))))), some (.int (zI ((w : Int)))), some (.int (zI (fsh F ((w % 7 : Nat) : Int) ((w / 7 : Nat) : Int) b (6 : Nat)))), some (.int (zI (((6 : Nat) : Int)))), none, none]) dX7_best_186 rfl (by decide) rfl ?_
                      refine EV.iinc (i := 5) (lv' := [some (.ref m), some (.int (zI (b))), some (.int (zI (u))), some (.int (zI (fsh F ((w % 7 : Nat) : Int) ((w / 7 : Nat) : Int) b (6 : Nat)))), some (.int (zI (((10 * ((w / 7 : Nat) : Int)) + ((w % 7 : Nat) : Int))))), some (.int (zI ((w : Int) + 1))), some (.int (zI (fsh F ((w % 7 : Nat) : Int) ((w / 7 : Nat) : Int) b (6 : Nat)))), some (.int (zI (((6 : Nat) : Int)))), none, none]) dX7_best_187 rfl (by decide) rfl ?_
                      refine EV.goto (t := 31) dX7_best_190 (by decide) ?_
                      refine EV.drop 6 (lv' := [some (.ref m), some (.int (zI (b))), some (.int (zI (u))), some (.int (zI (fsh F ((w % 7 : Nat) : Int) ((w / 7 : Nat) : Int) b (6 : Nat)))), some (.int (zI (((10 * ((w / 7 : Nat) : Int)) + ((w % 7 : Nat) : Int))))), some (.int (zI (((w : Int) + 1)))), none, some (.int (zI (((6 : Nat) : Int)))), none, none]) rfl ?_
                      refine EV.drop 7 (lv' := [some (.ref m), some (.int (zI (b))), some (.int (zI (u))), some (.int (zI (fsh F ((w % 7 : Nat) : Int) ((w / 7 : Nat) : Int) b (6 : Nat)))), some (.int (zI (((10 * ((w / 7 : Nat) : Int)) + ((w % 7 : Nat) : Int))))), some (.int (zI (((w : Int) + 1)))), none, none, none, none]) rfl ?_
                      exact ih31 (w + 1) _ _ _ (by omega) (by omega) (y1) (y2) (rfl)
                · skip
                  refine EV.iconst dX7_best_52 ?_
                  refine EV.istore (i := 8) (lv' := [some (.ref m), some (.int (zI (b))), some (.int (zI (u))), some (.int (zI ((bsS F b w).1))), some (.int (zI ((bsS F b w).2))), some (.int (zI ((w : Int)))), some (.int (zI (fsh F ((w % 7 : Nat) : Int) ((w / 7 : Nat) : Int) b p))), some (.int (zI ((p : Int)))), some (.int (zI (0))), none]) dX7_best_53 (by decide) rfl ?_
                  refine EV.iconst dX7_best_55 ?_
                  refine EV.istore (i := 9) (lv' := [some (.ref m), some (.int (zI (b))), some (.int (zI (u))), some (.int (zI ((bsS F b w).1))), some (.int (zI ((bsS F b w).2))), some (.int (zI ((w : Int)))), some (.int (zI (fsh F ((w % 7 : Nat) : Int) ((w / 7 : Nat) : Int) b p))), some (.int (zI ((p : Int)))), some (.int (zI (0))), some (.int (zI (0)))]) dX7_best_56 (by decide) rfl ?_
                  have L58 : ∀ (n58 : Nat) (k : Nat) (x8 x9 : Int), (k ≤ 14) → (F.1.testBit p = true ∨ k = 0) → 14 - k < n58 → x8 = ((cnt (bsB F ((w % 7 : Nat) : Int) ((w / 7 : Nat) : Int) b p) k : Nat) : Int) → x9 = (k : Int) → EV G l mX7_best (d + 3) (RQ h (bestR F b u)) 58 [some (.ref m), some (.int (zI (b))), some (.int (zI (u))), some (.int (zI ((bsS F b w).1))), some (.int (zI ((bsS F b w).2))), some (.int (zI ((w : Int)))), some (.int (zI (fsh F ((w % 7 : Nat) : Int) ((w / 7 : Nat) : Int) b p))), some (.int (zI ((p : Int)))), some (.int (zI (x8))), some (.int (zI (x9)))] [] h 0 0 := by
                    intro n58
                    induction n58 with
                    | zero => intro _ _ _ _ _ hm; exact absurd hm (Nat.not_lt_zero _)
                    | succ n58 ih58 =>
                      intro k x8 x9 hk hbk hm58 e8 e9
                      subst e8 e9
                      have hcl := cnt_le (bsB F ((w % 7 : Nat) : Int) ((w / 7 : Nat) : Int) b p) k
                      refine EV.iload (i := 9) dX7_best_58 rfl ?_
                      refine EV.bipush dX7_best_60 (by decide) ?_
                      refine EV.icmp_ge (t := 113) dX7_best_62 (by decide) (by omega) (fun c62 => ?_) (fun c62 => ?_)
                      · skip
                        obtain rfl : k = 14 := by omega
                        have hbt : F.1.testBit p = true := by rcases hbk with z | z; exact z; omega
                        refine EV.aload_n (i := 0) dX7_best_113 rfl rfl ?_
                        refine EV.getf fl_X7_41 dX7_best_114 hcm rfl ?_
                        refine EV.iload (i := 7) dX7_best_117 rfl ?_
                        refine EV.callSr (M' := mX7_has) (as := [.int (zI ((F.1 : Int))), .int (zI ((p : Int)))]) (rest := []) ml_X7_49 sm_X7_has co_X7_has dX7_best_119 (c_X7_has (d + 1) F.1 p (by omega) (by omega)) rfl rfl (Nat.le_of_ble_eq_true rfl) ?_
                        refine EV.ifeqB (t := 137) dX7_best_122 (by decide) (fun c122 => ?_) (fun c122 => ?_)
                        · skip
                          (rw [hbt] at c122; exact absurd c122 (by decide))
                        · skip
                          refine EV.iload (i := 8) dX7_best_125 rfl ?_
                          refine EV.iload (i := 6) dX7_best_127 rfl ?_
                          refine EV.icmp_ge (t := 137) dX7_best_129 (by decide) (by omega) (fun c129 => ?_) (fun c129 => ?_)
                          · skip
                            refine EV.iload (i := 6) dX7_best_137 rfl ?_
                            have y3 : fsh F ((w % 7 : Nat) : Int) ((w / 7 : Nat) : Int) b p = fsh F ((w % 7 : Nat) : Int) ((w / 7 : Nat) : Int) b (p + 1) := fs_k (by omega)
                            refine EV.istore (i := 6) (lv' := [some (.ref m), some (.int (zI (b))), some (.int (zI (u))), some (.int (zI ((bsS F b w).1))), some (.int (zI ((bsS F b w).2))), some (.int (zI ((w : Int)))), some (.int (zI (fsh F ((w % 7 : Nat) : Int) ((w / 7 : Nat) : Int) b p))), some (.int (zI ((p : Int)))), some (.int (zI (((cnt (bsB F ((w % 7 : Nat) : Int) ((w / 7 : Nat) : Int) b p) (14 : Nat) : Nat) : Int)))), some (.int (zI (((14 : Nat) : Int))))]) dX7_best_139 (by decide) rfl ?_
                            refine EV.iinc (i := 7) (lv' := [some (.ref m), some (.int (zI (b))), some (.int (zI (u))), some (.int (zI ((bsS F b w).1))), some (.int (zI ((bsS F b w).2))), some (.int (zI ((w : Int)))), some (.int (zI (fsh F ((w % 7 : Nat) : Int) ((w / 7 : Nat) : Int) b p))), some (.int (zI ((p : Int) + 1))), some (.int (zI (((cnt (bsB F ((w % 7 : Nat) : Int) ((w / 7 : Nat) : Int) b p) (14 : Nat) : Nat) : Int)))), some (.int (zI (((14 : Nat) : Int))))]) dX7_best_141 rfl (by decide) rfl ?_
                            refine EV.goto (t := 45) dX7_best_144 (by decide) ?_
                            refine EV.drop 8 (lv' := [some (.ref m), some (.int (zI (b))), some (.int (zI (u))), some (.int (zI ((bsS F b w).1))), some (.int (zI ((bsS F b w).2))), some (.int (zI ((w : Int)))), some (.int (zI (fsh F ((w % 7 : Nat) : Int) ((w / 7 : Nat) : Int) b p))), some (.int (zI (((p : Int) + 1)))), none, some (.int (zI (((14 : Nat) : Int))))]) rfl ?_
                            refine EV.drop 9 (lv' := [some (.ref m), some (.int (zI (b))), some (.int (zI (u))), some (.int (zI ((bsS F b w).1))), some (.int (zI ((bsS F b w).2))), some (.int (zI ((w : Int)))), some (.int (zI (fsh F ((w % 7 : Nat) : Int) ((w / 7 : Nat) : Int) b p))), some (.int (zI (((p : Int) + 1)))), none, none]) rfl ?_
                            exact ih45 (p + 1) _ _ (by omega) (by omega) (y3) (rfl)
                          · skip
                            refine EV.iload (i := 8) dX7_best_132 rfl ?_
                            refine EV.goto (t := 139) dX7_best_134 (by decide) ?_
                            have y3 : ((cnt (bsB F ((w % 7 : Nat) : Int) ((w / 7 : Nat) : Int) b p) 14 : Nat) : Int) = fsh F ((w % 7 : Nat) : Int) ((w / 7 : Nat) : Int) b (p + 1) := fs_y hbt (by omega)
                            refine EV.istore (i := 6) (lv' := [some (.ref m), some (.int (zI (b))), some (.int (zI (u))), some (.int (zI ((bsS F b w).1))), some (.int (zI ((bsS F b w).2))), some (.int (zI ((w : Int)))), some (.int (zI (((cnt (bsB F ((w % 7 : Nat) : Int) ((w / 7 : Nat) : Int) b p) (14 : Nat) : Nat) : Int)))), some (.int (zI ((p : Int)))), some (.int (zI (((cnt (bsB F ((w % 7 : Nat) : Int) ((w / 7 : Nat) : Int) b p) (14 : Nat) : Nat) : Int)))), some (.int (zI (((14 : Nat) : Int))))]) dX7_best_139 (by decide) rfl ?_
                            refine EV.iinc (i := 7) (lv' := [some (.ref m), some (.int (zI (b))), some (.int (zI (u))), some (.int (zI ((bsS F b w).1))), some (.int (zI ((bsS F b w).2))), some (.int (zI ((w : Int)))), some (.int (zI (((cnt (bsB F ((w % 7 : Nat) : Int) ((w / 7 : Nat) : Int) b p) (14 : Nat) : Nat) : Int)))), some (.int (zI ((p : Int) + 1))), some (.int (zI (((cnt (bsB F ((w % 7 : Nat) : Int) ((w / 7 : Nat) : Int) b p) (14 : Nat) : Nat) : Int)))), some (.int (zI (((14 : Nat) : Int))))]) dX7_best_141 rfl (by decide) rfl ?_
                            refine EV.goto (t := 45) dX7_best_144 (by decide) ?_
                            refine EV.drop 8 (lv' := [some (.ref m), some (.int (zI (b))), some (.int (zI (u))), some (.int (zI ((bsS F b w).1))), some (.int (zI ((bsS F b w).2))), some (.int (zI ((w : Int)))), some (.int (zI (((cnt (bsB F ((w % 7 : Nat) : Int) ((w / 7 : Nat) : Int) b p) (14 : Nat) : Nat) : Int)))), some (.int (zI (((p : Int) + 1)))), none, some (.int (zI (((14 : Nat) : Int))))]) rfl ?_
                            refine EV.drop 9 (lv' := [some (.ref m), some (.int (zI (b))), some (.int (zI (u))), some (.int (zI ((bsS F b w).1))), some (.int (zI ((bsS F b w).2))), some (.int (zI ((w : Int)))), some (.int (zI (((cnt (bsB F ((w % 7 : Nat) : Int) ((w / 7 : Nat) : Int) b p) (14 : Nat) : Nat) : Int)))), some (.int (zI (((p : Int) + 1)))), none, none]) rfl ?_
                            exact ih45 (p + 1) _ _ (by omega) (by omega) (y3) (rfl)
                      · skip
                        refine EV.aload_n (i := 0) dX7_best_65 rfl rfl ?_
                        refine EV.getf fl_X7_41 dX7_best_66 hcm rfl ?_
                        refine EV.iload (i := 7) dX7_best_69 rfl ?_
                        refine EV.callSr (M' := mX7_has) (as := [.int (zI ((F.1 : Int))), .int (zI ((p : Int)))]) (rest := []) ml_X7_49 sm_X7_has co_X7_has dX7_best_71 (c_X7_has (d + 1) F.1 p (by omega) (by omega)) rfl rfl (Nat.le_of_ble_eq_true rfl) ?_
                        refine EV.ifeqB (t := 113) dX7_best_74 (by decide) (fun c74 => ?_) (fun c74 => ?_)
                        · skip
                          refine EV.aload_n (i := 0) dX7_best_113 rfl rfl ?_
                          refine EV.getf fl_X7_41 dX7_best_114 hcm rfl ?_
                          refine EV.iload (i := 7) dX7_best_117 rfl ?_
                          refine EV.callSr (M' := mX7_has) (as := [.int (zI ((F.1 : Int))), .int (zI ((p : Int)))]) (rest := []) ml_X7_49 sm_X7_has co_X7_has dX7_best_119 (c_X7_has (d + 1) F.1 p (by omega) (by omega)) rfl rfl (Nat.le_of_ble_eq_true rfl) ?_
                          refine EV.ifeqB (t := 137) dX7_best_122 (by decide) (fun c122 => ?_) (fun c122 => ?_)
                          · skip
                            refine EV.iload (i := 6) dX7_best_137 rfl ?_
                            have y3 : fsh F ((w % 7 : Nat) : Int) ((w / 7 : Nat) : Int) b p = fsh F ((w % 7 : Nat) : Int) ((w / 7 : Nat) : Int) b (p + 1) := fs_n c74
                            refine EV.istore (i := 6) (lv' := [some (.ref m), some (.int (zI (b))), some (.int (zI (u))), some (.int (zI ((bsS F b w).1))), some (.int (zI ((bsS F b w).2))), some (.int (zI ((w : Int)))), some (.int (zI (fsh F ((w % 7 : Nat) : Int) ((w / 7 : Nat) : Int) b p))), some (.int (zI ((p : Int)))), some (.int (zI (((cnt (bsB F ((w % 7 : Nat) : Int) ((w / 7 : Nat) : Int) b p) k : Nat) : Int)))), some (.int (zI ((k : Int))))]) dX7_best_139 (by decide) rfl ?_
                            refine EV.iinc (i := 7) (lv' := [some (.ref m), some (.int (zI (b))), some (.int (zI (u))), some (.int (zI ((bsS F b w).1))), some (.int (zI ((bsS F b w).2))), some (.int (zI ((w : Int)))), some (.int (zI (fsh F ((w % 7 : Nat) : Int) ((w / 7 : Nat) : Int) b p))), some (.int (zI ((p : Int) + 1))), some (.int (zI (((cnt (bsB F ((w % 7 : Nat) : Int) ((w / 7 : Nat) : Int) b p) k : Nat) : Int)))), some (.int (zI ((k : Int))))]) dX7_best_141 rfl (by decide) rfl ?_
                            refine EV.goto (t := 45) dX7_best_144 (by decide) ?_
                            refine EV.drop 8 (lv' := [some (.ref m), some (.int (zI (b))), some (.int (zI (u))), some (.int (zI ((bsS F b w).1))), some (.int (zI ((bsS F b w).2))), some (.int (zI ((w : Int)))), some (.int (zI (fsh F ((w % 7 : Nat) : Int) ((w / 7 : Nat) : Int) b p))), some (.int (zI (((p : Int) + 1)))), none, some (.int (zI ((k : Int))))]) rfl ?_
                            refine EV.drop 9 (lv' := [some (.ref m), some (.int (zI (b))), some (.int (zI (u))), some (.int (zI ((bsS F b w).1))), some (.int (zI ((bsS F b w).2))), some (.int (zI ((w : Int)))), some (.int (zI (fsh F ((w % 7 : Nat) : Int) ((w / 7 : Nat) : Int) b p))), some (.int (zI (((p : Int) + 1)))), none, none]) rfl ?_
                            exact ih45 (p + 1) _ _ (by omega) (by omega) (y3) (rfl)
                          · skip
                            (rw [c74] at c122; exact absurd c122 (by decide))
                        · skip
                          have htb := tn_bd (k := k) (show w < 14 by omega) b
                          refine EV.iload (i := 8) dX7_best_77 rfl ?_
                          refine EV.aload_n (i := 0) dX7_best_79 rfl rfl ?_
                          refine EV.iload (i := 7) dX7_best_80 rfl ?_
                          refine EV.iload_n (i := 1) dX7_best_82 rfl rfl ?_
                          refine EV.iload (i := 9) dX7_best_83 rfl ?_
                          refine EV.iadd dX7_best_85 ?_
                          refine EV.callVr (M' := mX7_dayOf) (as := [.int (zI ((p : Int))), .int (zI ((b + (k : Int))))]) (rest := [.int (zI (((cnt (bsB F ((w % 7 : Nat) : Int) ((w / 7 : Nat) : Int) b p) k : Nat) : Int)))]) ml_X7_80 im_X7_dayOf se_X7_dayOf rfl co_X7_dayOf dX7_best_86 hcm (c_X7_dayOf (d + 1) hM hW p (b + (k : Int)) (by omega) c74 (by omega)) rfl rfl (Nat.le_of_ble_eq_true rfl) ?_
                          have hr1 := hW.dy (p := p) (by omega) c74 (b + (k : Int))
                          refine EV.iload (i := 5) dX7_best_89 rfl ?_
                          refine EV.iload (i := 9) dX7_best_91 rfl ?_
                          refine EV.callSr (M' := mX7_turned) (as := [.int (zI ((w : Int))), .int (zI ((k : Int)))]) (rest := [.int (zI (dy F p (b + (k : Int)))), .int (zI (((cnt (bsB F ((w % 7 : Nat) : Int) ((w / 7 : Nat) : Int) b p) k : Nat) : Int)))]) ml_X7_119 sm_X7_turned co_X7_turned dX7_best_93 (c_X7_turned (d + 1) (w : Int) (k : Int) (by omega) (by omega)) rfl rfl (Nat.le_of_ble_eq_true rfl) ?_
                          have htn : 0 ≤ tn (w : Int) (k : Int) ∧ tn (w : Int) (k : Int) ≤ 6 := by unfold tn; split <;> omega
                          refine EV.icmp_ne (t := 103) dX7_best_96 (by decide) (by omega) (fun c96 => ?_) (fun c96 => ?_)
                          · skip
                            refine EV.iconst dX7_best_103 ?_
                            refine EV.iadd dX7_best_104 ?_
                            refine EV.istore (i := 8) (lv' := [some (.ref m), some (.int (zI (b))), some (.int (zI (u))), some (.int (zI ((bsS F b w).1))), some (.int (zI ((bsS F b w).2))), some (.int (zI ((w : Int)))), some (.int (zI (fsh F ((w % 7 : Nat) : Int) ((w / 7 : Nat) : Int) b p))), some (.int (zI ((p : Int)))), some (.int (zI ((((cnt (bsB F ((w % 7 : Nat) : Int) ((w / 7 : Nat) : Int) b p) k : Nat) : Int) + 0)))), some (.int (zI ((k : Int))))]) dX7_best_105 (by decide) rfl ?_
                            refine EV.iinc (i := 9) (lv' := [some (.ref m), some (.int (zI (b))), some (.int (zI (u))), some (.int (zI ((bsS F b w).1))), some (.int (zI ((bsS F b w).2))), some (.int (zI ((w : Int)))), some (.int (zI (fsh F ((w % 7 : Nat) : Int) ((w / 7 : Nat) : Int) b p))), some (.int (zI ((p : Int)))), some (.int (zI ((((cnt (bsB F ((w % 7 : Nat) : Int) ((w / 7 : Nat) : Int) b p) k : Nat) : Int) + 0)))), some (.int (zI ((k : Int) + 1)))]) dX7_best_107 rfl (by decide) rfl ?_
                            refine EV.goto (t := 58) dX7_best_110 (by decide) ?_
                            exact ih58 (k + 1) _ _ (by omega) (Or.inl c74) (by omega) (by rw [Int.add_zero]; exact cnt_n (f := (bsB F ((w % 7 : Nat) : Int) ((w / 7 : Nat) : Int) b p)) (decide_eq_false (by rw [← htb]; exact c96))) (rfl)
                          · skip
                            refine EV.iconst dX7_best_99 ?_
                            refine EV.goto (t := 104) dX7_best_100 (by decide) ?_
                            refine EV.iadd dX7_best_104 ?_
                            refine EV.istore (i := 8) (lv' := [some (.ref m), some (.int (zI (b))), some (.int (zI (u))), some (.int (zI ((bsS F b w).1))), some (.int (zI ((bsS F b w).2))), some (.int (zI ((w : Int)))), some (.int (zI (fsh F ((w % 7 : Nat) : Int) ((w / 7 : Nat) : Int) b p))), some (.int (zI ((p : Int)))), some (.int (zI ((((cnt (bsB F ((w % 7 : Nat) : Int) ((w / 7 : Nat) : Int) b p) k : Nat) : Int) + 1)))), some (.int (zI ((k : Int))))]) dX7_best_105 (by decide) rfl ?_
                            refine EV.iinc (i := 9) (lv' := [some (.ref m), some (.int (zI (b))), some (.int (zI (u))), some (.int (zI ((bsS F b w).1))), some (.int (zI ((bsS F b w).2))), some (.int (zI ((w : Int)))), some (.int (zI (fsh F ((w % 7 : Nat) : Int) ((w / 7 : Nat) : Int) b p))), some (.int (zI ((p : Int)))), some (.int (zI ((((cnt (bsB F ((w % 7 : Nat) : Int) ((w / 7 : Nat) : Int) b p) k : Nat) : Int) + 1)))), some (.int (zI ((k : Int) + 1)))]) dX7_best_107 rfl (by decide) rfl ?_
                            refine EV.goto (t := 58) dX7_best_110 (by decide) ?_
                            exact ih58 (k + 1) _ _ (by omega) (Or.inl c74) (by omega) (cnt_y (f := (bsB F ((w % 7 : Nat) : Int) ((w / 7 : Nat) : Int) b p)) (decide_eq_true (by rw [← htb]; exact c96))) (rfl)
                  exact L58 _ 0 _ _ (by omega) (Or.inr rfl) (Nat.lt_succ_self _) (rfl) (rfl)
            exact L45 _ 0 _ _ (by omega) (Nat.lt_succ_self _) (rfl) (rfl)
      exact L31 _ 0 _ _ _ (by omega) (Nat.lt_succ_self _) (rfl) (rfl) (rfl)
    · skip
      have c16r := of_nrg c16
      refine EV.bipush dX7_best_19 (by decide) ?_
      refine EV.iret rfl dX7_best_21 ?_
      exact rQ (by simp [bestR, c7, c16])
end
