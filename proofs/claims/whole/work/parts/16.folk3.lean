section
variable {G : GG} {l : Launch}
set_option maxHeartbeats 4000000 in
set_option maxRecDepth 20000 in
theorem c_X0_whyNever (d : Nat) {h : Hp} {F : FK} {f b s o v : Nat} {V : Nat → Int} (hF : FolkAt G h F f b s o v V) (hW : WF F) (a : Nat) (D : Int) (ha : a < 64) (hD : 0 ≤ D ∧ D ≤ 7) : CT G l mX0_whyNever (d + 5) 0 0 [.ref f, .int (zI ((a : Int))), .int (zI (D))] h (RQ h (wn F a D)) := by
  refine CT.of (by decide) (Nat.le_of_ble_eq_true rfl) (List.forall_mem_cons.mpr ⟨rfl, List.forall_mem_cons.mpr ⟨rfl, List.forall_mem_cons.mpr ⟨rfl, fun _ h => absurd h List.not_mem_nil⟩⟩⟩) ?_
  refine EV.lvs (lv' := [some (.ref f), some (.int (zI ((a : Int)))), some (.int (zI (D))), none, none, none]) rfl ?_
  have ⟨hcf, hcb, hcs, hco, hcv⟩ := hF
  have hth := hW.1
  refine EV.iconst dX0_whyNever_0 ?_
  refine EV.istore_n (i := 3) (lv' := [some (.ref f), some (.int (zI ((a : Int)))), some (.int (zI (D))), some (.int (zI (0))), none, none]) dX0_whyNever_1 rfl (by decide) rfl ?_
  have L2 : ∀ (n2 : Nat) (p : Nat) (x3 : Int), (p ≤ 6) → (ffr (wn1 F a D) 6 0 = ffr (wn1 F a D) (6 - p) p) → 6 - p < n2 → x3 = (p : Int) → EV G l mX0_whyNever (d + 5) (RQ h (wn F a D)) 2 [some (.ref f), some (.int (zI ((a : Int)))), some (.int (zI (D))), some (.int (zI (x3))), none, none] [] h 0 0 := by
    intro n2
    induction n2 with
    | zero => intro _ _ _ _ hm; exact absurd hm (Nat.not_lt_zero _)
    | succ n2 ih2 =>
      intro p x3 hp hx hm2 e3
      subst e3
      refine EV.iload_n (i := 3) dX0_whyNever_2 rfl rfl ?_
      refine EV.bipush dX0_whyNever_3 (by decide) ?_
      refine EV.icmp_ge (t := 39) dX0_whyNever_5 (by decide) (by omega) (fun c5 => ?_) (fun c5 => ?_)
      · skip
        obtain rfl : p = 6 := by omega
        refine EV.iconst dX0_whyNever_39 ?_
        refine EV.istore_n (i := 3) (lv' := [some (.ref f), some (.int (zI ((a : Int)))), some (.int (zI (D))), some (.int (zI (0))), none, none]) dX0_whyNever_40 rfl (by decide) rfl ?_
        have L41 : ∀ (n41 : Nat) (p : Nat) (x3 : Int), (p ≤ 6) → (wn F a D = fpr (wn2 F a D) (prs p (p + 1))) → 6 - p < n41 → x3 = (p : Int) → EV G l mX0_whyNever (d + 5) (RQ h (wn F a D)) 41 [some (.ref f), some (.int (zI ((a : Int)))), some (.int (zI (D))), some (.int (zI (x3))), none, none] [] h 0 0 := by
          intro n41
          induction n41 with
          | zero => intro _ _ _ _ hm; exact absurd hm (Nat.not_lt_zero _)
          | succ n41 ih41 =>
            intro p x3 hp hy hm41 e3
            subst e3
            refine EV.iload_n (i := 3) dX0_whyNever_41 rfl rfl ?_
            refine EV.bipush dX0_whyNever_42 (by decide) ?_
            refine EV.icmp_ge (t := 108) dX0_whyNever_44 (by decide) (by omega) (fun c44 => ?_) (fun c44 => ?_)
            · skip
              obtain rfl : p = 6 := by omega
              refine EV.bipush dX0_whyNever_108 (by decide) ?_
              refine EV.iret rfl dX0_whyNever_110 ?_
              exact rQ (fpr_e hy).symm
            · skip
              refine EV.iload_n (i := 3) dX0_whyNever_47 rfl rfl ?_
              refine EV.iconst dX0_whyNever_48 ?_
              refine EV.iadd dX0_whyNever_49 ?_
              refine EV.istore (i := 4) (lv' := [some (.ref f), some (.int (zI ((a : Int)))), some (.int (zI (D))), some (.int (zI ((p : Int)))), some (.int (zI (((p : Int) + 1)))), none]) dX0_whyNever_50 (by decide) rfl ?_
              have L52 : ∀ (n52 : Nat) (q : Nat) (x4 : Int), (q ≤ 6) → (p < q) → (wn F a D = fpr (wn2 F a D) (prs p q)) → 6 - q < n52 → x4 = (q : Int) → EV G l mX0_whyNever (d + 5) (RQ h (wn F a D)) 52 [some (.ref f), some (.int (zI ((a : Int)))), some (.int (zI (D))), some (.int (zI ((p : Int)))), some (.int (zI (x4))), none] [] h 0 0 := by
                intro n52
                induction n52 with
                | zero => intro _ _ _ _ _ hm; exact absurd hm (Nat.not_lt_zero _)
                | succ n52 ih52 =>
                  intro q x4 hq hpq hz hm52 e4
                  subst e4
                  refine EV.iload (i := 4) dX0_whyNever_52 rfl ?_
                  refine EV.bipush dX0_whyNever_54 (by decide) ?_
                  refine EV.icmp_ge (t := 102) dX0_whyNever_56 (by decide) (by omega) (fun c56 => ?_) (fun c56 => ?_)
                  · skip
                    obtain rfl : q = 6 := by omega
                    refine EV.iinc (i := 3) (lv' := [some (.ref f), some (.int (zI ((a : Int)))), some (.int (zI (D))), some (.int (zI ((p : Int) + 1))), some (.int (zI (((6 : Nat) : Int)))), none]) dX0_whyNever_102 rfl (by decide) rfl ?_
                    refine EV.goto (t := 41) dX0_whyNever_105 (by decide) ?_
                    refine EV.drop 4 (lv' := [some (.ref f), some (.int (zI ((a : Int)))), some (.int (zI (D))), some (.int (zI (((p : Int) + 1)))), none, none]) rfl ?_
                    exact ih41 (p + 1) _ (by omega) (fpr_r hz (by omega)) (by omega) (by rfl)
                  · skip
                    refine EV.iconst dX0_whyNever_59 ?_
                    refine EV.iload_n (i := 3) dX0_whyNever_60 rfl rfl ?_
                    refine EV.ishlW dX0_whyNever_61 ?_
                    refine EV.iconst dX0_whyNever_62 ?_
                    refine EV.iload (i := 4) dX0_whyNever_63 rfl ?_
                    refine EV.ishlW dX0_whyNever_65 ?_
                    refine EV.iorW dX0_whyNever_66 ?_
                    refine EV.top (y := zI (((2 ^ p ||| 2 ^ q : Nat) : Int))) (by rw [zI_shl1 (by omega), zI_shl1 (by omega), zI_or]) ?_
                    refine EV.istore (i := 5) (lv' := [some (.ref f), some (.int (zI ((a : Int)))), some (.int (zI (D))), some (.int (zI ((p : Int)))), some (.int (zI ((q : Int)))), some (.int (zI (((2 ^ p ||| 2 ^ q : Nat) : Int))))]) dX0_whyNever_67 (by decide) rfl ?_
                    refine EV.iload_n (i := 1) dX0_whyNever_69 rfl rfl ?_
                    refine EV.iload (i := 5) dX0_whyNever_70 rfl ?_
                    refine EV.iandW dX0_whyNever_72 ?_
                    refine EV.top (y := zI (((a &&& (2 ^ p ||| 2 ^ q) : Nat) : Int))) (zI_and _ _) ?_
                    have hl1 : a &&& (2 ^ p ||| 2 ^ q) ≤ a := Nat.and_le_left
                    have hl2 := two_lt (p := p) (q := q) (by omega) (by omega)
                    refine EV.iload (i := 5) dX0_whyNever_73 rfl ?_
                    refine EV.icmp_ne (t := 96) dX0_whyNever_75 (by decide) (by omega) (fun c75 => ?_) (fun c75 => ?_)
                    · skip
                      refine EV.iinc (i := 4) (lv' := [some (.ref f), some (.int (zI ((a : Int)))), some (.int (zI (D))), some (.int (zI ((p : Int)))), some (.int (zI ((q : Int) + 1))), some (.int (zI (((2 ^ p ||| 2 ^ q : Nat) : Int))))]) dX0_whyNever_96 rfl (by decide) rfl ?_
                      refine EV.goto (t := 52) dX0_whyNever_99 (by decide) ?_
                      refine EV.drop 5 (lv' := [some (.ref f), some (.int (zI ((a : Int)))), some (.int (zI (D))), some (.int (zI ((p : Int)))), some (.int (zI (((q : Int) + 1)))), none]) rfl ?_
                      exact ih52 (q + 1) _ (by omega) (by omega) (fpr_n hz (by omega) (by omega) hpq (by unfold wn2; cases h1 : a.testBit p <;> cases h2 : a.testBit q <;> first | rfl | exact absurd (congrArg (fun z : Nat => (z : Int)) ((two_and0 a ha p (by omega) q (by omega)).mpr ⟨h1, h2⟩)) c75)) (by omega) (by rfl)
                    · skip
                      have hbb := (two_and0 a ha p (by omega) q (by omega)).mp (by omega)
                      refine EV.aload_n (i := 0) dX0_whyNever_78 rfl rfl ?_
                      refine EV.iload (i := 5) dX0_whyNever_79 rfl ?_
                      refine EV.iload_n (i := 2) dX0_whyNever_81 rfl rfl ?_
                      refine EV.callVr (M' := mX0_everAllHave) (as := [.int (zI (((2 ^ p ||| 2 ^ q : Nat) : Int))), .int (zI (D))]) (rest := []) ml_X0_63 im_X0_everAllHave se_X0_everAllHave rfl co_X0_everAllHave dX0_whyNever_82 hcf (c_X0_everAllHave (d + 0) hF hW (2 ^ p ||| 2 ^ q) D hl2 hD) rfl rfl (Nat.le_of_ble_eq_true rfl) ?_
                      refine EV.ifneB (t := 96) dX0_whyNever_85 (by decide) (fun c85 => ?_) (fun c85 => ?_)
                      · skip
                        refine EV.iinc (i := 4) (lv' := [some (.ref f), some (.int (zI ((a : Int)))), some (.int (zI (D))), some (.int (zI ((p : Int)))), some (.int (zI ((q : Int) + 1))), some (.int (zI (((2 ^ p ||| 2 ^ q : Nat) : Int))))]) dX0_whyNever_96 rfl (by decide) rfl ?_
                        refine EV.goto (t := 52) dX0_whyNever_99 (by decide) ?_
                        refine EV.drop 5 (lv' := [some (.ref f), some (.int (zI ((a : Int)))), some (.int (zI (D))), some (.int (zI ((p : Int)))), some (.int (zI (((q : Int) + 1)))), none]) rfl ?_
                        exact ih52 (q + 1) _ (by omega) (by omega) (fpr_n hz (by omega) (by omega) hpq (by unfold wn2; rw [c85]; simp)) (by omega) (by rfl)
                      · skip
                        refine EV.bipush dX0_whyNever_88 (by decide) ?_
                        refine EV.iload_n (i := 3) dX0_whyNever_90 rfl rfl ?_
                        refine EV.imul dX0_whyNever_91 ?_
                        refine EV.iload (i := 4) dX0_whyNever_92 rfl ?_
                        refine EV.iadd dX0_whyNever_94 ?_
                        refine EV.iret rfl dX0_whyNever_95 ?_
                        exact rQ (fpr_y hz (by omega) (by omega) hpq (by unfold wn2; rw [hbb.1, hbb.2, c85]; rfl)).symm
              exact L52 _ (p + 1) _ (by omega) (by omega) (hy) (Nat.lt_succ_self _) (by rfl)
        exact L41 _ 0 _ (by omega) (wn_c hx) (Nat.lt_succ_self _) (by rfl)
      · skip
        refine EV.iload_n (i := 1) dX0_whyNever_8 rfl rfl ?_
        refine EV.iload_n (i := 3) dX0_whyNever_9 rfl rfl ?_
        refine EV.ishrW dX0_whyNever_10 ?_
        refine EV.iconst dX0_whyNever_11 ?_
        refine EV.iandW dX0_whyNever_12 ?_
        refine EV.top (y := zI (bI (a.testBit p))) (zI_bit (by omega) (by omega)) ?_
        refine EV.iconst dX0_whyNever_13 ?_
        refine EV.icmp_ne (t := 33) dX0_whyNever_14 (by decide) (bI_r1 _) (fun c14 => ?_) (fun c14 => ?_)
        · skip
          have c14 := bI_ne1 c14
          refine EV.iinc (i := 3) (lv' := [some (.ref f), some (.int (zI ((a : Int)))), some (.int (zI (D))), some (.int (zI ((p : Int) + 1))), none, none]) dX0_whyNever_33 rfl (by decide) rfl ?_
          refine EV.goto (t := 2) dX0_whyNever_36 (by decide) ?_
          exact ih2 (p + 1) _ (by omega) (wn_b hx (by omega) (Or.inl c14)) (by omega) (by rfl)
        · skip
          have c14 := bI_eq1 c14
          refine EV.aload_n (i := 0) dX0_whyNever_17 rfl rfl ?_
          refine EV.iconst dX0_whyNever_18 ?_
          refine EV.iload_n (i := 3) dX0_whyNever_19 rfl rfl ?_
          refine EV.ishlW dX0_whyNever_20 ?_
          refine EV.top (y := zI (((2 ^ p : Nat) : Int))) (zI_shl1 (by omega)) ?_
          refine EV.iload_n (i := 2) dX0_whyNever_21 rfl rfl ?_
          refine EV.callVr (M' := mX0_everAllHave) (as := [.int (zI (((2 ^ p : Nat) : Int))), .int (zI (D))]) (rest := []) ml_X0_63 im_X0_everAllHave se_X0_everAllHave rfl co_X0_everAllHave dX0_whyNever_22 hcf (c_X0_everAllHave (d + 0) hF hW (2 ^ p) D (pow6 (by omega)) hD) rfl rfl (Nat.le_of_ble_eq_true rfl) ?_
          refine EV.ifneB (t := 33) dX0_whyNever_25 (by decide) (fun c25 => ?_) (fun c25 => ?_)
          · skip
            refine EV.iinc (i := 3) (lv' := [some (.ref f), some (.int (zI ((a : Int)))), some (.int (zI (D))), some (.int (zI ((p : Int) + 1))), none, none]) dX0_whyNever_33 rfl (by decide) rfl ?_
            refine EV.goto (t := 2) dX0_whyNever_36 (by decide) ?_
            exact ih2 (p + 1) _ (by omega) (wn_b hx (by omega) (Or.inr c25)) (by omega) (by rfl)
          · skip
            refine EV.bipush dX0_whyNever_28 (by decide) ?_
            refine EV.iload_n (i := 3) dX0_whyNever_30 rfl rfl ?_
            refine EV.imul dX0_whyNever_31 ?_
            refine EV.iret rfl dX0_whyNever_32 ?_
            exact rQ (wn_a hx (by omega) c14 c25)
  exact L2 _ 0 _ (by omega) (rfl) (Nat.lt_succ_self _) (by rfl)
set_option maxHeartbeats 4000000 in
set_option maxRecDepth 20000 in
theorem c_X6_bornDay (d : Nat) {h : Hp} (tu wy bi t : Int) (h1 : 0 ≤ tu ∧ tu ≤ 6) (h2 : 0 ≤ wy ∧ wy ≤ 1) (h3 : 0 ≤ bi ∧ bi ≤ 99) (h4 : -1000000 ≤ t ∧ t ≤ 1000000) : CT G l mX6_bornDay (d + 2) 0 0 [.int (zI (tu)), .int (zI (wy)), .int (zI (bi)), .int (zI (t))] h (RQ h (bd tu wy bi t)) := by
  refine CT.of (by decide) (Nat.le_of_ble_eq_true rfl) (List.forall_mem_cons.mpr ⟨rfl, List.forall_mem_cons.mpr ⟨rfl, List.forall_mem_cons.mpr ⟨rfl, List.forall_mem_cons.mpr ⟨rfl, fun _ h => absurd h List.not_mem_nil⟩⟩⟩⟩) ?_
  refine EV.lvs (lv' := [some (.int (zI (tu))), some (.int (zI (wy))), some (.int (zI (bi))), some (.int (zI (t))), none]) rfl ?_
  refine EV.iload_n (i := 3) dX6_bornDay_0 rfl rfl ?_
  refine EV.iload_n (i := 2) dX6_bornDay_1 rfl rfl ?_
  refine EV.isub dX6_bornDay_2 ?_
  refine EV.istore (i := 4) (lv' := [some (.int (zI (tu))), some (.int (zI (wy))), some (.int (zI (bi))), some (.int (zI (t))), some (.int (zI ((t - bi))))]) dX6_bornDay_3 (by decide) rfl ?_
  refine EV.iload_n (i := 1) dX6_bornDay_5 rfl rfl ?_
  refine EV.ifne (t := 16) dX6_bornDay_6 (by decide) (by omega) (fun c6 => ?_) (fun c6 => ?_)
  · skip
    refine EV.iload_n (i := 0) dX6_bornDay_16 rfl rfl ?_
    refine EV.iload (i := 4) dX6_bornDay_17 rfl ?_
    refine EV.isub dX6_bornDay_19 ?_
    refine EV.bipush dX6_bornDay_20 (by decide) ?_
    refine EV.callSr (M' := mJ9_floorMod_7cf53) (as := [.int (zI ((tu - (t - bi)))), .int (zI (7))]) (rest := []) ml_X6_233 sm_J9_floorMod_7cf53 co_J9_floorMod_7cf53 dX6_bornDay_22 (c_J9_floorMod_7cf53 (d + 0) (tu - (t - bi)) 7 (by omega) (by omega)) rfl rfl (Nat.le_of_ble_eq_true rfl) ?_
    refine EV.iret rfl dX6_bornDay_25 ?_
    exact rQ (by rw [bd, if_neg c6])
  · skip
    refine EV.iload_n (i := 0) dX6_bornDay_9 rfl rfl ?_
    refine EV.iload (i := 4) dX6_bornDay_10 rfl ?_
    refine EV.iadd dX6_bornDay_12 ?_
    refine EV.goto (t := 20) dX6_bornDay_13 (by decide) ?_
    refine EV.bipush dX6_bornDay_20 (by decide) ?_
    refine EV.callSr (M' := mJ9_floorMod_7cf53) (as := [.int (zI ((tu + (t - bi)))), .int (zI (7))]) (rest := []) ml_X6_233 sm_J9_floorMod_7cf53 co_J9_floorMod_7cf53 dX6_bornDay_22 (c_J9_floorMod_7cf53 (d + 0) (tu + (t - bi)) 7 (by omega) (by omega)) rfl rfl (Nat.le_of_ble_eq_true rfl) ?_
    refine EV.iret rfl dX6_bornDay_25 ?_
    exact rQ (by rw [bd, if_pos c6])
set_option maxHeartbeats 4000000 in
set_option maxRecDepth 20000 in
theorem c_X0_fewestShared (d : Nat) {h : Hp} {F : FK} {f b s o v : Nat} {V : Nat → Int} (hF : FolkAt G h F f b s o v V) (hW : WF F) (tu wy bi : Int) (h1 : 0 ≤ tu ∧ tu ≤ 6) (h2 : 0 ≤ wy ∧ wy ≤ 1) (h3 : 0 ≤ bi ∧ bi ≤ 99) : CT G l mX0_fewestShared (d + 4) 0 0 [.ref f, .int (zI (tu)), .int (zI (wy)), .int (zI (bi))] h (RQ h (fsh F tu wy bi 6)) := by
  refine CT.of (by decide) (Nat.le_of_ble_eq_true rfl) (List.forall_mem_cons.mpr ⟨rfl, List.forall_mem_cons.mpr ⟨rfl, List.forall_mem_cons.mpr ⟨rfl, List.forall_mem_cons.mpr ⟨rfl, fun _ h => absurd h List.not_mem_nil⟩⟩⟩⟩) ?_
  refine EV.lvs (lv' := [some (.ref f), some (.int (zI (tu))), some (.int (zI (wy))), some (.int (zI (bi))), none, none, none, none]) rfl ?_
  have ⟨hcf, hcb, hcs, hco, hcv⟩ := hF
  have hth := hW.1
  refine EV.bipush dX0_fewestShared_0 (by decide) ?_
  refine EV.istore (i := 4) (lv' := [some (.ref f), some (.int (zI (tu))), some (.int (zI (wy))), some (.int (zI (bi))), some (.int (zI (14))), none, none, none]) dX0_fewestShared_2 (by decide) rfl ?_
  refine EV.iconst dX0_fewestShared_4 ?_
  refine EV.istore (i := 5) (lv' := [some (.ref f), some (.int (zI (tu))), some (.int (zI (wy))), some (.int (zI (bi))), some (.int (zI (14))), some (.int (zI (0))), none, none]) dX0_fewestShared_5 (by decide) rfl ?_
  have L7 : ∀ (n7 : Nat) (p : Nat) (x4 x5 : Int), (p ≤ 6) → 6 - p < n7 → x4 = fsh F tu wy bi p → x5 = (p : Int) → EV G l mX0_fewestShared (d + 4) (RQ h (fsh F tu wy bi 6)) 7 [some (.ref f), some (.int (zI (tu))), some (.int (zI (wy))), some (.int (zI (bi))), some (.int (zI (x4))), some (.int (zI (x5))), none, none] [] h 0 0 := by
    intro n7
    induction n7 with
    | zero => intro _ _ _ _ hm; exact absurd hm (Nat.not_lt_zero _)
    | succ n7 ih7 =>
      intro p x4 x5 hp hm7 e4 e5
      subst e4 e5
      have hfi := fsh_in F tu wy bi p
      refine EV.iload (i := 5) dX0_fewestShared_7 rfl ?_
      refine EV.bipush dX0_fewestShared_9 (by decide) ?_
      refine EV.icmp_ge (t := 88) dX0_fewestShared_11 (by decide) (by omega) (fun c11 => ?_) (fun c11 => ?_)
      · skip
        obtain rfl : p = 6 := by omega
        refine EV.iload (i := 4) dX0_fewestShared_88 rfl ?_
        refine EV.iret rfl dX0_fewestShared_90 ?_
        exact rQ rfl
      · skip
        refine EV.aload_n (i := 0) dX0_fewestShared_14 rfl rfl ?_
        refine EV.iload (i := 5) dX0_fewestShared_15 rfl ?_
        refine EV.callVr (M' := mX0_isThere) (as := [.int (zI ((p : Int)))]) (rest := []) ml_X0_70 im_X0_isThere se_X0_isThere rfl co_X0_isThere dX0_fewestShared_17 hcf (c_X0_isThere (d + 1) hF hW (p : Int) (by omega)) rfl rfl (Nat.le_of_ble_eq_true rfl) ?_
        refine EV.ifeqB (t := 82) dX0_fewestShared_20 (by decide) (fun c20 => ?_) (fun c20 => ?_)
        · skip
          refine EV.iinc (i := 5) (lv' := [some (.ref f), some (.int (zI (tu))), some (.int (zI (wy))), some (.int (zI (bi))), some (.int (zI (fsh F tu wy bi p))), some (.int (zI ((p : Int) + 1))), none, none]) dX0_fewestShared_82 rfl (by decide) rfl ?_
          refine EV.goto (t := 7) dX0_fewestShared_85 (by decide) ?_
          exact ih7 (p + 1) _ _ (by omega) (by omega) (by rw [thI_n F (by omega)] at c20; rw [fsh, if_neg (by rw [c20]; decide)]) (by rfl)
        · skip
          have hp6 : p < 6 := by omega
          have hb : F.1.testBit p = true := by rw [thI_n F hp6] at c20; exact c20
          refine EV.iconst dX0_fewestShared_23 ?_
          refine EV.istore (i := 6) (lv' := [some (.ref f), some (.int (zI (tu))), some (.int (zI (wy))), some (.int (zI (bi))), some (.int (zI (fsh F tu wy bi p))), some (.int (zI ((p : Int)))), some (.int (zI (0))), none]) dX0_fewestShared_24 (by decide) rfl ?_
          refine EV.iload_n (i := 3) dX0_fewestShared_26 rfl rfl ?_
          refine EV.istore (i := 7) (lv' := [some (.ref f), some (.int (zI (tu))), some (.int (zI (wy))), some (.int (zI (bi))), some (.int (zI (fsh F tu wy bi p))), some (.int (zI ((p : Int)))), some (.int (zI (0))), some (.int (zI (bi)))]) dX0_fewestShared_27 (by decide) rfl ?_
          have L29 : ∀ (n29 : Nat) (k : Nat) (x6 x7 : Int), (k ≤ 14) → 14 - k < n29 → x6 = ((cnt (bsB F tu wy bi p) k : Nat) : Int) → x7 = (bi + (k : Int)) → EV G l mX0_fewestShared (d + 4) (RQ h (fsh F tu wy bi 6)) 29 [some (.ref f), some (.int (zI (tu))), some (.int (zI (wy))), some (.int (zI (bi))), some (.int (zI (fsh F tu wy bi p))), some (.int (zI ((p : Int)))), some (.int (zI (x6))), some (.int (zI (x7)))] [] h 0 0 := by
            intro n29
            induction n29 with
            | zero => intro _ _ _ _ hm; exact absurd hm (Nat.not_lt_zero _)
            | succ n29 ih29 =>
              intro k x6 x7 hk hm29 e6 e7
              subst e6 e7
              have hcl := cnt_le (bsB F tu wy bi p) k
              refine EV.iload (i := 7) dX0_fewestShared_29 rfl ?_
              refine EV.iload_n (i := 3) dX0_fewestShared_31 rfl rfl ?_
              refine EV.bipush dX0_fewestShared_32 (by decide) ?_
              refine EV.iadd dX0_fewestShared_34 ?_
              refine EV.icmp_ge (t := 73) dX0_fewestShared_35 (by decide) (by omega) (fun c35 => ?_) (fun c35 => ?_)
              · skip
                obtain rfl : k = 14 := by omega
                refine EV.iload (i := 4) dX0_fewestShared_73 rfl ?_
                refine EV.iload (i := 6) dX0_fewestShared_75 rfl ?_
                refine EV.callSr (M' := mJ9_min_7cf53) (as := [.int (zI (fsh F tu wy bi p)), .int (zI (((cnt (bsB F tu wy bi p) (14 : Nat) : Nat) : Int)))]) (rest := []) ml_X0_84 sm_J9_min_7cf53 co_J9_min_7cf53 dX0_fewestShared_77 (c_J9_min_7cf53 (d + 2) (fsh F tu wy bi p) ((cnt (bsB F tu wy bi p) (14 : Nat) : Nat) : Int) (by omega) (by omega)) rfl rfl (Nat.le_of_ble_eq_true rfl) ?_
                refine EV.istore (i := 4) (lv' := [some (.ref f), some (.int (zI (tu))), some (.int (zI (wy))), some (.int (zI (bi))), some (.int (zI ((if ((cnt (bsB F tu wy bi p) (14 : Nat) : Nat) : Int) < fsh F tu wy bi p then ((cnt (bsB F tu wy bi p) (14 : Nat) : Nat) : Int) else fsh F tu wy bi p)))), some (.int (zI ((p : Int)))), some (.int (zI (((cnt (bsB F tu wy bi p) (14 : Nat) : Nat) : Int)))), some (.int (zI ((bi + ((14 : Nat) : Int)))))]) dX0_fewestShared_80 (by decide) rfl ?_
                refine EV.iinc (i := 5) (lv' := [some (.ref f), some (.int (zI (tu))), some (.int (zI (wy))), some (.int (zI (bi))), some (.int (zI ((if ((cnt (bsB F tu wy bi p) (14 : Nat) : Nat) : Int) < fsh F tu wy bi p then ((cnt (bsB F tu wy bi p) (14 : Nat) : Nat) : Int) else fsh F tu wy bi p)))), some (.int (zI ((p : Int) + 1))), some (.int (zI (((cnt (bsB F tu wy bi p) (14 : Nat) : Nat) : Int)))), some (.int (zI ((bi + ((14 : Nat) : Int)))))]) dX0_fewestShared_82 rfl (by decide) rfl ?_
                refine EV.goto (t := 7) dX0_fewestShared_85 (by decide) ?_
                refine EV.drop 6 (lv' := [some (.ref f), some (.int (zI (tu))), some (.int (zI (wy))), some (.int (zI (bi))), some (.int (zI ((if ((cnt (bsB F tu wy bi p) (14 : Nat) : Nat) : Int) < fsh F tu wy bi p then ((cnt (bsB F tu wy bi p) (14 : Nat) : Nat) : Int) else fsh F tu wy bi p)))), some (.int (zI (((p : Int) + 1)))), none, some (.int (zI ((bi + ((14 : Nat) : Int)))))]) rfl ?_
                refine EV.drop 7 (lv' := [some (.ref f), some (.int (zI (tu))), some (.int (zI (wy))), some (.int (zI (bi))), some (.int (zI ((if ((cnt (bsB F tu wy bi p) (14 : Nat) : Nat) : Int) < fsh F tu wy bi p then ((cnt (bsB F tu wy bi p) (14 : Nat) : Nat) : Int) else fsh F tu wy bi p)))), some (.int (zI (((p : Int) + 1)))), none, none]) rfl ?_
                exact ih7 (p + 1) _ _ (by omega) (by omega) (by rw [fsh, if_pos hb]) (by rfl)
              · skip
                refine EV.iload (i := 6) dX0_fewestShared_38 rfl ?_
                refine EV.aload_n (i := 0) dX0_fewestShared_40 rfl rfl ?_
                refine EV.iload (i := 5) dX0_fewestShared_41 rfl ?_
                refine EV.iload (i := 7) dX0_fewestShared_43 rfl ?_
                refine EV.callVr (M' := mX0_dayOn) (as := [.int (zI ((p : Int))), .int (zI ((bi + (k : Int))))]) (rest := [.int (zI (((cnt (bsB F tu wy bi p) k : Nat) : Int)))]) ml_X0_53 im_X0_dayOn se_X0_dayOn rfl co_X0_dayOn dX0_fewestShared_45 hcf (c_X0_dayOn (d + 1) hF hW (p : Int) (bi + (k : Int)) (by omega) (by omega)) rfl rfl (Nat.le_of_ble_eq_true rfl) ?_
                refine EV.top (y := zI (dy F p (bi + (k : Int)))) (by rw [dn_y hp6 hb]) ?_
                have hr1 := hW.dy hp6 hb (bi + (k : Int))
                refine EV.iload_n (i := 1) dX0_fewestShared_48 rfl rfl ?_
                refine EV.iload_n (i := 2) dX0_fewestShared_49 rfl rfl ?_
                refine EV.iload_n (i := 3) dX0_fewestShared_50 rfl rfl ?_
                refine EV.iload (i := 7) dX0_fewestShared_51 rfl ?_
                refine EV.callSNr (M' := mX6_bornDay) (as := [.int (zI (tu)), .int (zI (wy)), .int (zI (bi)), .int (zI ((bi + (k : Int))))]) (rest := [.int (zI (dy F p (bi + (k : Int)))), .int (zI (((cnt (bsB F tu wy bi p) k : Nat) : Int)))]) (host := RX6) (by decide) sm_X6_bornDay co_X6_bornDay dX0_fewestShared_53 (c_X6_bornDay (d + 1) tu wy bi (bi + (k : Int)) (by omega) (by omega) (by omega) (by omega)) rfl rfl (Nat.le_of_ble_eq_true rfl) ?_
                have hbd : 0 ≤ bd tu wy bi (bi + (k : Int)) ∧ bd tu wy bi (bi + (k : Int)) ≤ 6 := by unfold bd; omega
                refine EV.icmp_ne (t := 63) dX0_fewestShared_56 (by decide) (by omega) (fun c56 => ?_) (fun c56 => ?_)
                · skip
                  refine EV.iconst dX0_fewestShared_63 ?_
                  refine EV.iadd dX0_fewestShared_64 ?_
                  refine EV.istore (i := 6) (lv' := [some (.ref f), some (.int (zI (tu))), some (.int (zI (wy))), some (.int (zI (bi))), some (.int (zI (fsh F tu wy bi p))), some (.int (zI ((p : Int)))), some (.int (zI ((((cnt (bsB F tu wy bi p) k : Nat) : Int) + 0)))), some (.int (zI ((bi + (k : Int)))))]) dX0_fewestShared_65 (by decide) rfl ?_
                  refine EV.iinc (i := 7) (lv' := [some (.ref f), some (.int (zI (tu))), some (.int (zI (wy))), some (.int (zI (bi))), some (.int (zI (fsh F tu wy bi p))), some (.int (zI ((p : Int)))), some (.int (zI ((((cnt (bsB F tu wy bi p) k : Nat) : Int) + 0)))), some (.int (zI ((bi + (k : Int)) + 1)))]) dX0_fewestShared_67 rfl (by decide) rfl ?_
                  refine EV.goto (t := 29) dX0_fewestShared_70 (by decide) ?_
                  exact ih29 (k + 1) _ _ (by omega) (by omega) (by rw [Int.add_zero]; exact cnt_n (f := bsB F tu wy bi p) (decide_eq_false c56)) (by omega)
                · skip
                  refine EV.iconst dX0_fewestShared_59 ?_
                  refine EV.goto (t := 64) dX0_fewestShared_60 (by decide) ?_
                  refine EV.iadd dX0_fewestShared_64 ?_
                  refine EV.istore (i := 6) (lv' := [some (.ref f), some (.int (zI (tu))), some (.int (zI (wy))), some (.int (zI (bi))), some (.int (zI (fsh F tu wy bi p))), some (.int (zI ((p : Int)))), some (.int (zI ((((cnt (bsB F tu wy bi p) k : Nat) : Int) + 1)))), some (.int (zI ((bi + (k : Int)))))]) dX0_fewestShared_65 (by decide) rfl ?_
                  refine EV.iinc (i := 7) (lv' := [some (.ref f), some (.int (zI (tu))), some (.int (zI (wy))), some (.int (zI (bi))), some (.int (zI (fsh F tu wy bi p))), some (.int (zI ((p : Int)))), some (.int (zI ((((cnt (bsB F tu wy bi p) k : Nat) : Int) + 1)))), some (.int (zI ((bi + (k : Int)) + 1)))]) dX0_fewestShared_67 rfl (by decide) rfl ?_
                  refine EV.goto (t := 29) dX0_fewestShared_70 (by decide) ?_
                  exact ih29 (k + 1) _ _ (by omega) (by omega) (cnt_y (f := bsB F tu wy bi p) (decide_eq_true c56)) (by omega)
          exact L29 _ 0 _ _ (by omega) (Nat.lt_succ_self _) (rfl) (by omega)
  exact L7 _ 0 _ _ (by omega) (Nat.lt_succ_self _) (by rfl) (by rfl)
set_option maxHeartbeats 4000000 in
set_option maxRecDepth 20000 in
theorem c_X0_feastOn (d : Nat) {h : Hp} {F : FK} {f b s o v : Nat} {V : Nat → Int} (hF : FolkAt G h F f b s o v V) (hW : WF F) (t : Int) (ht : -1000000 ≤ t ∧ t ≤ 1000000) : CT G l mX0_feastOn (d + 3) 0 0 [.ref f, .int (zI (t))] h (VQ G h v (ft F t)) := by
  refine CT.of (by decide) (Nat.le_of_ble_eq_true rfl) (List.forall_mem_cons.mpr ⟨rfl, List.forall_mem_cons.mpr ⟨rfl, fun _ h => absurd h List.not_mem_nil⟩⟩) ?_
  refine EV.lvs (lv' := [some (.ref f), some (.int (zI (t))), none, none, none]) rfl ?_
  have ⟨hcf, hcb, hcs, hco, hcv⟩ := hF
  have hth := hW.1
  have hF0 := hF
  refine EV.iconst dX0_feastOn_0 ?_
  refine EV.istore_n (i := 2) (lv' := [some (.ref f), some (.int (zI (t))), some (.int (zI (0))), none, none]) dX0_feastOn_1 rfl (by decide) rfl ?_
  have L2 : ∀ (n2 : Nat) (k : Nat) (V1 : Nat → Int) (x2 : Int) (hh : Hp), (k ≤ 8) → (∀ i, i < k → V1 i = 0) → 8 - k < n2 → x2 = (k : Int) → hh = hset h v (arI G 8 V1) → EV G l mX0_feastOn (d + 3) (VQ G h v (ft F t)) 2 [some (.ref f), some (.int (zI (t))), some (.int (zI (x2))), none, none] [] hh 0 0 := by
    intro n2
    induction n2 with
    | zero => intro _ _ _ _ _ _ hm; exact absurd hm (Nat.not_lt_zero _)
    | succ n2 ih2 =>
      intro k V1 x2 hh hk hz hm2 e2 eh
      subst e2 eh
      have hF := hF.votes V1
      have ⟨hcf, hcb, hcs, hco, hcv⟩ := hF
      refine EV.iload_n (i := 2) dX0_feastOn_2 rfl rfl ?_
      refine EV.bipush dX0_feastOn_3 (by decide) ?_
      refine EV.icmp_ge (t := 21) dX0_feastOn_5 (by decide) (by omega) (fun c5 => ?_) (fun c5 => ?_)
      · skip
        obtain rfl : k = 8 := by omega
        refine EV.iconst dX0_feastOn_21 ?_
        refine EV.istore_n (i := 2) (lv' := [some (.ref f), some (.int (zI (t))), some (.int (zI (0))), none, none]) dX0_feastOn_22 rfl (by decide) rfl ?_
        have L23 : ∀ (n23 : Nat) (p : Nat) (V1 : Nat → Int) (x2 : Int) (hh : Hp), (p ≤ 6) → (∀ D : Nat, D < 8 → V1 D = ((cnt (hvB F (D : Int) t) p : Nat) : Int)) → 6 - p < n23 → x2 = (p : Int) → hh = hset h v (arI G 8 V1) → EV G l mX0_feastOn (d + 3) (VQ G h v (ft F t)) 23 [some (.ref f), some (.int (zI (t))), some (.int (zI (x2))), none, none] [] hh 0 0 := by
          intro n23
          induction n23 with
          | zero => intro _ _ _ _ _ _ hm; exact absurd hm (Nat.not_lt_zero _)
          | succ n23 ih23 =>
            intro p V1 x2 hh hp hv hm23 e2 eh
            subst e2 eh
            have hF := hF0.votes V1
            have ⟨hcf, hcb, hcs, hco, hcv⟩ := hF
            refine EV.iload_n (i := 2) dX0_feastOn_23 rfl rfl ?_
            refine EV.bipush dX0_feastOn_24 (by decide) ?_
            refine EV.icmp_ge (t := 61) dX0_feastOn_26 (by decide) (by omega) (fun c26 => ?_) (fun c26 => ?_)
            · skip
              obtain rfl : p = 6 := by omega
              refine EV.iconst dX0_feastOn_61 ?_
              refine EV.istore_n (i := 2) (lv' := [some (.ref f), some (.int (zI (t))), some (.int (zI (0))), none, none]) dX0_feastOn_62 rfl (by decide) rfl ?_
              refine EV.bipush dX0_feastOn_63 (by decide) ?_
              refine EV.istore_n (i := 3) (lv' := [some (.ref f), some (.int (zI (t))), some (.int (zI (0))), some (.int (zI ((-6)))), none]) dX0_feastOn_65 rfl (by decide) rfl ?_
              refine EV.iconst dX0_feastOn_66 ?_
              refine EV.istore (i := 4) (lv' := [some (.ref f), some (.int (zI (t))), some (.int (zI (0))), some (.int (zI ((-6)))), some (.int (zI (0)))]) dX0_feastOn_67 (by decide) rfl ?_
              have L69 : ∀ (n69 : Nat) (n : Nat) (x2 x3 x4 : Int), (n ≤ 8) → 8 - n < n69 → x2 = (fst2 F t n).1 → x3 = (fst2 F t n).2 → x4 = (n : Int) → EV G l mX0_feastOn (d + 3) (VQ G h v (ft F t)) 69 [some (.ref f), some (.int (zI (t))), some (.int (zI (x2))), some (.int (zI (x3))), some (.int (zI (x4)))] [] (hset h v (arI G 8 V1)) 0 0 := by
                intro n69
                induction n69 with
                | zero => intro _ _ _ _ _ hm; exact absurd hm (Nat.not_lt_zero _)
                | succ n69 ih69 =>
                  intro n x2 x3 x4 hn hm69 e2 e3 e4
                  subst e2 e3 e4
                  have hfi := fst2_in F t n
                  have hcl := cnt_le (hvB F (n : Int) t) 6
                  refine EV.iload (i := 4) dX0_feastOn_69 rfl ?_
                  refine EV.bipush dX0_feastOn_71 (by decide) ?_
                  refine EV.icmp_ge (t := 104) dX0_feastOn_73 (by decide) (by omega) (fun c73 => ?_) (fun c73 => ?_)
                  · skip
                    obtain rfl : n = 8 := by omega
                    refine EV.iload_n (i := 3) dX0_feastOn_104 rfl rfl ?_
                    refine EV.iret rfl dX0_feastOn_105 ?_
                    exact ⟨rfl, V1, rfl⟩
                  · skip
                    refine EV.aload_n (i := 0) dX0_feastOn_76 rfl rfl ?_
                    refine EV.getf fl_X0_21 dX0_feastOn_77 hcf rfl ?_
                    refine EV.iload (i := 4) dX0_feastOn_80 rfl ?_
                    refine EV.iald dX0_feastOn_82 hcv (n) (rfl) (by omega) ?_
                    refine EV.top (y := zI (((cnt (hvB F (n : Int) t) 6 : Nat) : Int))) (by rw [hv n (by omega)]) ?_
                    refine EV.iload_n (i := 2) dX0_feastOn_83 rfl rfl ?_
                    refine EV.icmp_le (t := 98) dX0_feastOn_84 (by decide) (by omega) (fun c84 => ?_) (fun c84 => ?_)
                    · skip
                      refine EV.iinc (i := 4) (lv' := [some (.ref f), some (.int (zI (t))), some (.int (zI ((fst2 F t n).1))), some (.int (zI ((fst2 F t n).2))), some (.int (zI ((n : Int) + 1)))]) dX0_feastOn_98 rfl (by decide) rfl ?_
                      refine EV.goto (t := 69) dX0_feastOn_101 (by decide) ?_
                      exact ih69 (n + 1) _ _ _ (by omega) (by omega) ((fst2_n c84).1) ((fst2_n c84).2) (rfl)
                    · skip
                      refine EV.aload_n (i := 0) dX0_feastOn_87 rfl rfl ?_
                      refine EV.getf fl_X0_21 dX0_feastOn_88 hcf rfl ?_
                      refine EV.iload (i := 4) dX0_feastOn_91 rfl ?_
                      refine EV.iald dX0_feastOn_93 hcv (n) (rfl) (by omega) ?_
                      refine EV.top (y := zI (((cnt (hvB F (n : Int) t) 6 : Nat) : Int))) (by rw [hv n (by omega)]) ?_
                      refine EV.istore_n (i := 2) (lv' := [some (.ref f), some (.int (zI (t))), some (.int (zI (((cnt (hvB F (n : Int) t) 6 : Nat) : Int)))), some (.int (zI ((fst2 F t n).2))), some (.int (zI ((n : Int))))]) dX0_feastOn_94 rfl (by decide) rfl ?_
                      refine EV.iload (i := 4) dX0_feastOn_95 rfl ?_
                      refine EV.istore_n (i := 3) (lv' := [some (.ref f), some (.int (zI (t))), some (.int (zI (((cnt (hvB F (n : Int) t) 6 : Nat) : Int)))), some (.int (zI ((n : Int)))), some (.int (zI ((n : Int))))]) dX0_feastOn_97 rfl (by decide) rfl ?_
                      refine EV.iinc (i := 4) (lv' := [some (.ref f), some (.int (zI (t))), some (.int (zI (((cnt (hvB F (n : Int) t) 6 : Nat) : Int)))), some (.int (zI ((n : Int)))), some (.int (zI ((n : Int) + 1)))]) dX0_feastOn_98 rfl (by decide) rfl ?_
                      refine EV.goto (t := 69) dX0_feastOn_101 (by decide) ?_
                      exact ih69 (n + 1) _ _ _ (by omega) (by omega) ((fst2_y c84).1) ((fst2_y c84).2) (rfl)
              exact L69 _ 0 _ _ _ (by omega) (Nat.lt_succ_self _) (rfl) (rfl) (rfl)
            · skip
              refine EV.aload_n (i := 0) dX0_feastOn_29 rfl rfl ?_
              refine EV.iload_n (i := 2) dX0_feastOn_30 rfl rfl ?_
              refine EV.iload_n (i := 1) dX0_feastOn_31 rfl rfl ?_
              refine EV.callVr (M' := mX0_dayOn) (as := [.int (zI ((p : Int))), .int (zI (t))]) (rest := []) ml_X0_53 im_X0_dayOn se_X0_dayOn rfl co_X0_dayOn dX0_feastOn_32 hcf (c_X0_dayOn (d + 0) hF hW (p : Int) t (by omega) (by omega)) rfl rfl (Nat.le_of_ble_eq_true rfl) ?_
              have hdb := hW.dnr (p : Int) t
              refine EV.istore_n (i := 3) (lv' := [some (.ref f), some (.int (zI (t))), some (.int (zI ((p : Int)))), some (.int (zI (dn F (p : Int) t))), none]) dX0_feastOn_35 rfl (by decide) rfl ?_
              refine EV.iload_n (i := 3) dX0_feastOn_36 rfl rfl ?_
              refine EV.bipush dX0_feastOn_37 (by decide) ?_
              refine EV.callSNr (M' := mX6_isOneOf) (as := [.int (zI (dn F (p : Int) t)), .int (zI (8))]) (rest := []) (host := RX6) (by decide) sm_X6_isOneOf co_X6_isOneOf dX0_feastOn_39 (c_X6_isOneOf (d + 1) (dn F (p : Int) t) 8 (by omega) (by omega)) rfl rfl (Nat.le_of_ble_eq_true rfl) ?_
              refine EV.ifeqB (t := 55) dX0_feastOn_42 (by decide) (fun c42 => ?_) (fun c42 => ?_)
              · skip
                have c42r := of_nrg c42
                refine EV.iinc (i := 2) (lv' := [some (.ref f), some (.int (zI (t))), some (.int (zI ((p : Int) + 1))), some (.int (zI (dn F (p : Int) t))), none]) dX0_feastOn_55 rfl (by decide) rfl ?_
                refine EV.goto (t := 23) dX0_feastOn_58 (by decide) ?_
                refine EV.drop 3 (lv' := [some (.ref f), some (.int (zI (t))), some (.int (zI (((p : Int) + 1)))), none, none]) rfl ?_
                exact ih23 (p + 1) V1 _ _ (by omega) (vote_n hv (by omega) (by omega)) (by omega) (rfl) (rfl)
              · skip
                have c42r := of_rg c42
                refine EV.aload_n (i := 0) dX0_feastOn_45 rfl rfl ?_
                refine EV.getf fl_X0_21 dX0_feastOn_46 hcf rfl ?_
                refine EV.iload_n (i := 3) dX0_feastOn_49 rfl rfl ?_
                refine EV.dup2 dX0_feastOn_50 rfl rfl ?_
                refine EV.iald dX0_feastOn_51 hcv ((dn F (p : Int) t).toNat) (by omega) (by omega) ?_
                refine EV.iconst dX0_feastOn_52 ?_
                refine EV.iadd dX0_feastOn_53 ?_
                refine EV.iast dX0_feastOn_54 hcv ((dn F (p : Int) t).toNat) (by omega) (by omega) ?_
                refine EV.hps (hset_hset _ _ _ _) ?_
                refine EV.iinc (i := 2) (lv' := [some (.ref f), some (.int (zI (t))), some (.int (zI ((p : Int) + 1))), some (.int (zI (dn F (p : Int) t))), none]) dX0_feastOn_55 rfl (by decide) rfl ?_
                refine EV.goto (t := 23) dX0_feastOn_58 (by decide) ?_
                refine EV.drop 3 (lv' := [some (.ref f), some (.int (zI (t))), some (.int (zI (((p : Int) + 1)))), none, none]) rfl ?_
                exact ih23 (p + 1) (uI V1 (dn F (p : Int) t).toNat (V1 (dn F (p : Int) t).toNat + 1)) _ _ (by omega) (vote_y hv (by omega) (by omega)) (by omega) (rfl) (rfl)
        exact L23 _ 0 V1 _ _ (by omega) (fun D hD => hz D hD) (Nat.lt_succ_self _) (rfl) (rfl)
      · skip
        refine EV.aload_n (i := 0) dX0_feastOn_8 rfl rfl ?_
        refine EV.getf fl_X0_21 dX0_feastOn_9 hcf rfl ?_
        refine EV.iload_n (i := 2) dX0_feastOn_12 rfl rfl ?_
        refine EV.iconst dX0_feastOn_13 ?_
        refine EV.iast dX0_feastOn_14 hcv (k) (rfl) (by omega) ?_
        refine EV.hps (hset_hset _ _ _ _) ?_
        refine EV.iinc (i := 2) (lv' := [some (.ref f), some (.int (zI (t))), some (.int (zI ((k : Int) + 1))), none, none]) dX0_feastOn_15 rfl (by decide) rfl ?_
        refine EV.goto (t := 2) dX0_feastOn_18 (by decide) ?_
        exact ih2 (k + 1) (uI V1 k 0) _ _ (by omega) (clear_s hz) (by omega) (rfl) (rfl)
  exact L2 _ 0 V _ _ (by omega) (fun i hi => absurd hi (Nat.not_lt_zero _)) (Nat.lt_succ_self _) (rfl) ((hset_self hcv).symm)
end
