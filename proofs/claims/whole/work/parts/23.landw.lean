section
variable {G : GG} {l : Launch}
variable {h : Hp} {A : Nat → Nat} {N : Nat} {K : PD} {F : FK} {P : PL} {T : ST} {V : Nat → Int} {O : MO} {im : Nat → Option Nat} {IL : Nat → LQ} {X : MX}
set_option maxHeartbeats 4000000 in
set_option maxRecDepth 20000 in
theorem c_X1_isDoable (d : Nat) (hA : inA A N) (hW : WF F) (hP : WFP P) (hT : WFT T) (w : Nat) (t : Int) (hw : w < P.1) (ht : -1000000 ≤ t ∧ t ≤ 1000000) : CT G l mX1_isDoable (d + 4) 0 0 [.ref (A 14), .int (zI ((w : Int))), .int (zI (t))] (HP G h A N (K, (F, P, T, V), O, im, IL) X) (RQ (HP G h A N (K, (F, P, T, V), O, im, IL) X) (bI (ah F (P.2.2 w) (P.2.1 w) t))) := by
  refine CT.of (by decide) (Nat.le_of_ble_eq_true rfl) (List.forall_mem_cons.mpr ⟨rfl, List.forall_mem_cons.mpr ⟨rfl, List.forall_mem_cons.mpr ⟨rfl, fun _ h => absurd h List.not_mem_nil⟩⟩⟩) ?_
  refine EV.lvs (lv' := [some (.ref (A 14)), some (.int (zI ((w : Int)))), some (.int (zI (t)))]) rfl ?_
  have g14 : (HP G h A N (K, (F, P, T, V), O, im, IL) X) (A 14) = some (obj 1 [.ref (A 15), .ref (A 20), .ref (A 23)]) := hGet hA _ _ 14 (by decide)
  have g15 : (HP G h A N (K, (F, P, T, V), O, im, IL) X) (A 15) = some (obj 0 [.int (zI ((F.1 : Int))), .ref (A 16), .ref (A 17), .ref (A 18), .ref (A 19)]) := hGet hA _ _ 15 (by decide)
  have g20 : (HP G h A N (K, (F, P, T, V), O, im, IL) X) (A 20) = some (obj 4 [.int (zI ((P.1 : Int))), .ref (A 21), .ref (A 22)]) := hGet hA _ _ 20 (by decide)
  have hP6 := hP.1
  have hT6 := hT.1
  have hth := hW.1
  have hF : FolkAt G (HP G h A N (K, (F, P, T, V), O, im, IL) X) F (A 15) (A 16) (A 17) (A 18) (A 19) V := hFolk hA
  obtain ⟨hwd, hwo, hwp⟩ := hP.2 w hw
  refine EV.aload_n (i := 0) dX1_isDoable_0 rfl rfl ?_
  refine EV.getf fl_X1_10 dX1_isDoable_1 g14 rfl ?_
  refine EV.aload_n (i := 0) dX1_isDoable_4 rfl rfl ?_
  refine EV.getf fl_X1_19 dX1_isDoable_5 g14 rfl ?_
  refine EV.iload_n (i := 1) dX1_isDoable_8 rfl rfl ?_
  refine EV.callVr (M' := mX4_peopleOf) (as := [.int (zI ((w : Int)))]) (rest := [.ref (A 15)]) ml_X1_40 im_X4_peopleOf se_X4_peopleOf rfl co_X4_peopleOf dX1_isDoable_9 g20 (c_X4_peopleOf (d + 1) hA w (by omega)) rfl rfl (Nat.le_of_ble_eq_true rfl) ?_
  refine EV.aload_n (i := 0) dX1_isDoable_12 rfl rfl ?_
  refine EV.getf fl_X1_19 dX1_isDoable_13 g14 rfl ?_
  refine EV.iload_n (i := 1) dX1_isDoable_16 rfl rfl ?_
  refine EV.callVr (M' := mX4_dayOf) (as := [.int (zI ((w : Int)))]) (rest := [.int (zI ((P.2.2 w : Int))), .ref (A 15)]) ml_X1_44 im_X4_dayOf se_X4_dayOf rfl co_X4_dayOf dX1_isDoable_17 g20 (c_X4_dayOf (d + 1) hA w (by omega)) rfl rfl (Nat.le_of_ble_eq_true rfl) ?_
  refine EV.iload_n (i := 2) dX1_isDoable_20 rfl rfl ?_
  refine EV.callVr (M' := mX0_allHave) (as := [.int (zI ((P.2.2 w : Int))), .int (zI (P.2.1 w)), .int (zI (t))]) (rest := []) ml_X1_47 im_X0_allHave se_X0_allHave rfl co_X0_allHave dX1_isDoable_21 g15 (c_X0_allHave (d + 0) hF hW (P.2.2 w) (P.2.1 w) t (by omega) (by omega) (by omega)) rfl rfl (Nat.le_of_ble_eq_true rfl) ?_
  refine EV.zret rfl (nar_bI _) dX1_isDoable_24 ?_
  exact rQ rfl
set_option maxHeartbeats 4000000 in
set_option maxRecDepth 20000 in
theorem c_X1_isBarred (d : Nat) (hA : inA A N) (hW : WF F) (hP : WFP P) (hT : WFT T) (w : Nat) (hw : w < P.1) : CT G l mX1_isBarred (d + 5) 0 0 [.ref (A 14), .int (zI ((w : Int)))] (HP G h A N (K, (F, P, T, V), O, im, IL) X) (RQ (HP G h A N (K, (F, P, T, V), O, im, IL) X) (bI (!(ev F (P.2.2 w) (P.2.1 w))))) := by
  refine CT.of (by decide) (Nat.le_of_ble_eq_true rfl) (List.forall_mem_cons.mpr ⟨rfl, List.forall_mem_cons.mpr ⟨rfl, fun _ h => absurd h List.not_mem_nil⟩⟩) ?_
  refine EV.lvs (lv' := [some (.ref (A 14)), some (.int (zI ((w : Int))))]) rfl ?_
  have g14 : (HP G h A N (K, (F, P, T, V), O, im, IL) X) (A 14) = some (obj 1 [.ref (A 15), .ref (A 20), .ref (A 23)]) := hGet hA _ _ 14 (by decide)
  have g15 : (HP G h A N (K, (F, P, T, V), O, im, IL) X) (A 15) = some (obj 0 [.int (zI ((F.1 : Int))), .ref (A 16), .ref (A 17), .ref (A 18), .ref (A 19)]) := hGet hA _ _ 15 (by decide)
  have g20 : (HP G h A N (K, (F, P, T, V), O, im, IL) X) (A 20) = some (obj 4 [.int (zI ((P.1 : Int))), .ref (A 21), .ref (A 22)]) := hGet hA _ _ 20 (by decide)
  have hP6 := hP.1
  have hT6 := hT.1
  have hth := hW.1
  have hF : FolkAt G (HP G h A N (K, (F, P, T, V), O, im, IL) X) F (A 15) (A 16) (A 17) (A 18) (A 19) V := hFolk hA
  obtain ⟨hwd, hwo, hwp⟩ := hP.2 w hw
  refine EV.aload_n (i := 0) dX1_isBarred_0 rfl rfl ?_
  refine EV.getf fl_X1_10 dX1_isBarred_1 g14 rfl ?_
  refine EV.aload_n (i := 0) dX1_isBarred_4 rfl rfl ?_
  refine EV.getf fl_X1_19 dX1_isBarred_5 g14 rfl ?_
  refine EV.iload_n (i := 1) dX1_isBarred_8 rfl rfl ?_
  refine EV.callVr (M' := mX4_peopleOf) (as := [.int (zI ((w : Int)))]) (rest := [.ref (A 15)]) ml_X1_40 im_X4_peopleOf se_X4_peopleOf rfl co_X4_peopleOf dX1_isBarred_9 g20 (c_X4_peopleOf (d + 2) hA w (by omega)) rfl rfl (Nat.le_of_ble_eq_true rfl) ?_
  refine EV.aload_n (i := 0) dX1_isBarred_12 rfl rfl ?_
  refine EV.getf fl_X1_19 dX1_isBarred_13 g14 rfl ?_
  refine EV.iload_n (i := 1) dX1_isBarred_16 rfl rfl ?_
  refine EV.callVr (M' := mX4_dayOf) (as := [.int (zI ((w : Int)))]) (rest := [.int (zI ((P.2.2 w : Int))), .ref (A 15)]) ml_X1_44 im_X4_dayOf se_X4_dayOf rfl co_X4_dayOf dX1_isBarred_17 g20 (c_X4_dayOf (d + 2) hA w (by omega)) rfl rfl (Nat.le_of_ble_eq_true rfl) ?_
  refine EV.callVr (M' := mX0_everAllHave) (as := [.int (zI ((P.2.2 w : Int))), .int (zI (P.2.1 w))]) (rest := []) ml_X1_51 im_X0_everAllHave se_X0_everAllHave rfl co_X0_everAllHave dX1_isBarred_20 g15 (c_X0_everAllHave (d + 0) hF hW (P.2.2 w) (P.2.1 w) (by omega) (by omega)) rfl rfl (Nat.le_of_ble_eq_true rfl) ?_
  refine EV.ifneB (t := 30) dX1_isBarred_23 (by decide) (fun c23 => ?_) (fun c23 => ?_)
  · skip
    refine EV.iconst dX1_isBarred_30 ?_
    refine EV.zret rfl (by decide) dX1_isBarred_31 ?_
    exact rQ (bI_f (by rw [c23]; rfl))
  · skip
    refine EV.iconst dX1_isBarred_26 ?_
    refine EV.goto (t := 31) dX1_isBarred_27 (by decide) ?_
    refine EV.zret rfl (by decide) dX1_isBarred_31 ?_
    exact rQ (bI_t (by rw [c23]; rfl))
set_option maxHeartbeats 4000000 in
set_option maxRecDepth 20000 in
theorem c_X1_fitsSights (d : Nat) (hA : inA A N) (hW : WF F) (hP : WFP P) (hT : WFT T) (p : Nat) (D : Int) (hp : p < 6) (hD : 0 ≤ D ∧ D ≤ 7) : CT G l mX1_fitsSights (d + 3) 0 0 [.ref (A 14), .int (zI ((p : Int))), .int (zI (D))] (HP G h A N (K, (F, P, T, V), O, im, IL) X) (RQ (HP G h A N (K, (F, P, T, V), O, im, IL) X) (bI (wl F T p D T.1))) := by
  refine CT.of (by decide) (Nat.le_of_ble_eq_true rfl) (List.forall_mem_cons.mpr ⟨rfl, List.forall_mem_cons.mpr ⟨rfl, List.forall_mem_cons.mpr ⟨rfl, fun _ h => absurd h List.not_mem_nil⟩⟩⟩) ?_
  refine EV.lvs (lv' := [some (.ref (A 14)), some (.int (zI ((p : Int)))), some (.int (zI (D))), none]) rfl ?_
  have g14 : (HP G h A N (K, (F, P, T, V), O, im, IL) X) (A 14) = some (obj 1 [.ref (A 15), .ref (A 20), .ref (A 23)]) := hGet hA _ _ 14 (by decide)
  have g15 : (HP G h A N (K, (F, P, T, V), O, im, IL) X) (A 15) = some (obj 0 [.int (zI ((F.1 : Int))), .ref (A 16), .ref (A 17), .ref (A 18), .ref (A 19)]) := hGet hA _ _ 15 (by decide)
  have g23 : (HP G h A N (K, (F, P, T, V), O, im, IL) X) (A 23) = some (obj 5 [.int (zI ((T.1 : Int))), .ref (A 24), .ref (A 25)]) := hGet hA _ _ 23 (by decide)
  have hP6 := hP.1
  have hT6 := hT.1
  have hth := hW.1
  have hF : FolkAt G (HP G h A N (K, (F, P, T, V), O, im, IL) X) F (A 15) (A 16) (A 17) (A 18) (A 19) V := hFolk hA
  refine EV.aload_n (i := 0) dX1_fitsSights_0 rfl rfl ?_
  refine EV.getf fl_X1_10 dX1_fitsSights_1 g14 rfl ?_
  refine EV.iload_n (i := 1) dX1_fitsSights_4 rfl rfl ?_
  refine EV.callVr (M' := mX0_isThere) (as := [.int (zI ((p : Int)))]) (rest := []) ml_X1_55 im_X0_isThere se_X0_isThere rfl co_X0_isThere dX1_fitsSights_5 g15 (c_X0_isThere (d + 0) hF hW (p : Int) (by omega)) rfl rfl (Nat.le_of_ble_eq_true rfl) ?_
  refine EV.ifneB (t := 13) dX1_fitsSights_8 (by decide) (fun c8 => ?_) (fun c8 => ?_)
  · skip
    have hb : F.1.testBit p = true := by rw [← thI_n F hp]; exact c8
    refine EV.iconst dX1_fitsSights_13 ?_
    refine EV.istore_n (i := 3) (lv' := [some (.ref (A 14)), some (.int (zI ((p : Int)))), some (.int (zI (D))), some (.int (zI (0)))]) dX1_fitsSights_14 rfl (by decide) rfl ?_
    have L15 : ∀ (n15 : Nat) (i : Nat) (x3 : Int), (i ≤ T.1) → (∀ j, j < i → wlB F T p D j = true) → T.1 - i < n15 → x3 = (i : Int) → EV G l mX1_fitsSights (d + 3) (RQ (HP G h A N (K, (F, P, T, V), O, im, IL) X) (bI (wl F T p D T.1))) 15 [some (.ref (A 14)), some (.int (zI ((p : Int)))), some (.int (zI (D))), some (.int (zI (x3)))] [] (HP G h A N (K, (F, P, T, V), O, im, IL) X) 0 0 := by
      intro n15
      induction n15 with
      | zero => intro _ _ _ _ hm; exact absurd hm (Nat.not_lt_zero _)
      | succ n15 ih15 =>
        intro i x3 hi hall hm15 e3
        subst e3
        refine EV.iload_n (i := 3) dX1_fitsSights_15 rfl rfl ?_
        refine EV.aload_n (i := 0) dX1_fitsSights_16 rfl rfl ?_
        refine EV.getf fl_X1_26 dX1_fitsSights_17 g14 rfl ?_
        refine EV.getf fl_X1_59 dX1_fitsSights_20 g23 rfl ?_
        refine EV.icmp_ge (t := 70) dX1_fitsSights_23 (by decide) (by omega) (fun c23 => ?_) (fun c23 => ?_)
        · skip
          obtain rfl : i = T.1 := by omega
          refine EV.iconst dX1_fitsSights_70 ?_
          refine EV.zret rfl (by decide) dX1_fitsSights_71 ?_
          exact rQ (bI_t (by rw [wl, hb, alln_iff.mpr hall]; rfl))
        · skip
          have hsd := (hT.2 i (by omega)).1
          have hss := (hT.2 i (by omega)).2
          refine EV.aload_n (i := 0) dX1_fitsSights_26 rfl rfl ?_
          refine EV.getf fl_X1_10 dX1_fitsSights_27 g14 rfl ?_
          refine EV.iload_n (i := 1) dX1_fitsSights_30 rfl rfl ?_
          refine EV.aload_n (i := 0) dX1_fitsSights_31 rfl rfl ?_
          refine EV.getf fl_X1_26 dX1_fitsSights_32 g14 rfl ?_
          refine EV.iload_n (i := 3) dX1_fitsSights_35 rfl rfl ?_
          refine EV.callVr (M' := mX5_dateOf) (as := [.int (zI ((i : Int)))]) (rest := [.int (zI ((p : Int))), .ref (A 15)]) ml_X1_63 im_X5_dateOf se_X5_dateOf rfl co_X5_dateOf dX1_fitsSights_36 g23 (c_X5_dateOf (d + 0) hA i (by omega)) rfl rfl (Nat.le_of_ble_eq_true rfl) ?_
          have hssr : inR (T.2.2 i) := by rcases hss with z | z <;> rw [z] <;> decide
          refine EV.callVr (M' := mX0_dayOn) (as := [.int (zI ((p : Int))), .int (zI (T.2.1 i))]) (rest := []) ml_X1_66 im_X0_dayOn se_X0_dayOn rfl co_X0_dayOn dX1_fitsSights_39 g15 (c_X0_dayOn (d + 0) hF hW (p : Int) (T.2.1 i) (by omega) (by omega)) rfl rfl (Nat.le_of_ble_eq_true rfl) ?_
          have hdb := hW.dnr (p : Int) (T.2.1 i)
          refine EV.top (y := zI (dy F p (T.2.1 i))) (by rw [dn_y hp hb]) ?_
          refine EV.iload_n (i := 2) dX1_fitsSights_42 rfl rfl ?_
          refine EV.icmp_ne (t := 50) dX1_fitsSights_43 (by decide) (by have := hW.dy hp hb (T.2.1 i); omega) (fun c43 => ?_) (fun c43 => ?_)
          · skip
            refine EV.iconst dX1_fitsSights_50 ?_
            refine EV.aload_n (i := 0) dX1_fitsSights_51 rfl rfl ?_
            refine EV.getf fl_X1_26 dX1_fitsSights_52 g14 rfl ?_
            refine EV.iload_n (i := 3) dX1_fitsSights_55 rfl rfl ?_
            refine EV.callVr (M' := mX5_wasShut) (as := [.int (zI ((i : Int)))]) (rest := [.int (zI (0))]) ml_X1_70 im_X5_wasShut se_X5_wasShut rfl co_X5_wasShut dX1_fitsSights_56 g23 (c_X5_wasShut (d + 0) hA i (by omega) (by omega)) rfl rfl (Nat.le_of_ble_eq_true rfl) ?_
            refine EV.icmp_eq (t := 64) dX1_fitsSights_59 (by decide) (⟨by decide, bI_in _⟩) (fun c59 => ?_) (fun c59 => ?_)
            · skip
              refine EV.iinc (i := 3) (lv' := [some (.ref (A 14)), some (.int (zI ((p : Int)))), some (.int (zI (D))), some (.int (zI ((i : Int) + 1)))]) dX1_fitsSights_64 rfl (by decide) rfl ?_
              refine EV.goto (t := 15) dX1_fitsSights_67 (by decide) ?_
              exact ih15 (i + 1) _ (by omega) (no_step hall (wlB_v (a := false) (b := false) (decide_eq_false c43) (bI_0 c59.symm))) (by omega) (by rfl)
            · skip
              refine EV.iconst dX1_fitsSights_62 ?_
              refine EV.zret rfl (by decide) dX1_fitsSights_63 ?_
              exact rQ (bI_f (by rw [wl, alln_f (f := wlB F T p D) (i := i) (by omega) (wlB_v (a := false) (b := true) (decide_eq_false c43) (bI_1 (fun z => c59 z.symm))), Bool.and_false]))
          · skip
            refine EV.iconst dX1_fitsSights_46 ?_
            refine EV.goto (t := 51) dX1_fitsSights_47 (by decide) ?_
            refine EV.aload_n (i := 0) dX1_fitsSights_51 rfl rfl ?_
            refine EV.getf fl_X1_26 dX1_fitsSights_52 g14 rfl ?_
            refine EV.iload_n (i := 3) dX1_fitsSights_55 rfl rfl ?_
            refine EV.callVr (M' := mX5_wasShut) (as := [.int (zI ((i : Int)))]) (rest := [.int (zI (1))]) ml_X1_70 im_X5_wasShut se_X5_wasShut rfl co_X5_wasShut dX1_fitsSights_56 g23 (c_X5_wasShut (d + 0) hA i (by omega) (by omega)) rfl rfl (Nat.le_of_ble_eq_true rfl) ?_
            refine EV.icmp_eq (t := 64) dX1_fitsSights_59 (by decide) (⟨by decide, bI_in _⟩) (fun c59 => ?_) (fun c59 => ?_)
            · skip
              refine EV.iinc (i := 3) (lv' := [some (.ref (A 14)), some (.int (zI ((p : Int)))), some (.int (zI (D))), some (.int (zI ((i : Int) + 1)))]) dX1_fitsSights_64 rfl (by decide) rfl ?_
              refine EV.goto (t := 15) dX1_fitsSights_67 (by decide) ?_
              exact ih15 (i + 1) _ (by omega) (no_step hall (wlB_v (a := true) (b := true) (decide_eq_true c43) (bI_eq1 c59.symm))) (by omega) (by rfl)
            · skip
              refine EV.iconst dX1_fitsSights_62 ?_
              refine EV.zret rfl (by decide) dX1_fitsSights_63 ?_
              exact rQ (bI_f (by rw [wl, alln_f (f := wlB F T p D) (i := i) (by omega) (wlB_v (a := true) (b := false) (decide_eq_true c43) (bI_ne1 (fun z => c59 z.symm))), Bool.and_false]))
    exact L15 _ 0 _ (by omega) (no_0) (Nat.lt_succ_self _) (by rfl)
  · skip
    refine EV.iconst dX1_fitsSights_11 ?_
    refine EV.zret rfl (by decide) dX1_fitsSights_12 ?_
    exact rQ (bI_f (by rw [wl, ← thI_n F hp, c8]; rfl))
set_option maxHeartbeats 4000000 in
set_option maxRecDepth 20000 in
theorem c_X3_add (d : Nat) (hA : inA A N) (z : Int) (hK : K.1 ≤ 60) : CT G l mX3_add (d + 2) 0 0 [.ref (A 12), .int (zI (z))] (HP G h A N (K, (F, P, T, V), O, im, IL) X) (fun o h' => (K.1 < 60 ∧ o = some (.int (zI 1)) ∧ h' = HP G h A N (((K.1 + 1), (uI K.2 K.1 z)), (F, P, T, V), O, im, IL) X) ∨ (60 ≤ K.1 ∧ o = some (.int (zI 0)) ∧ h' = HP G h A N (K, (F, P, T, V), O, im, IL) X)) := by
  refine CT.of (by decide) (Nat.le_of_ble_eq_true rfl) (List.forall_mem_cons.mpr ⟨rfl, List.forall_mem_cons.mpr ⟨rfl, fun _ h => absurd h List.not_mem_nil⟩⟩) ?_
  refine EV.lvs (lv' := [some (.ref (A 12)), some (.int (zI (z)))]) rfl ?_
  have g12 : (HP G h A N (K, (F, P, T, V), O, im, IL) X) (A 12) = some (obj 3 [.ref (A 13), .int (zI ((K.1 : Int)))]) := hGet hA _ _ 12 (by decide)
  have g13 : (HP G h A N (K, (F, P, T, V), O, im, IL) X) (A 13) = some (arI G 60 K.2) := hGet hA _ _ 13 (by decide)
  refine EV.aload_n (i := 0) dX3_add_0 rfl rfl ?_
  refine EV.getf fl_X3_15 dX3_add_1 g12 rfl ?_
  refine EV.bipush dX3_add_4 (by decide) ?_
  refine EV.callSNr (M' := mX6_isOneOf) (as := [.int (zI ((K.1 : Int))), .int (zI (60))]) (rest := []) (host := RX6) (by decide) sm_X6_isOneOf co_X6_isOneOf dX3_add_6 (c_X6_isOneOf (d + 0) (K.1 : Int) 60 (by omega) (by omega)) rfl rfl (Nat.le_of_ble_eq_true rfl) ?_
  refine EV.ifneB (t := 14) dX3_add_9 (by decide) (fun c9 => ?_) (fun c9 => ?_)
  · skip
    have c9r := of_rg c9
    refine EV.aload_n (i := 0) dX3_add_14 rfl rfl ?_
    refine EV.getf fl_X3_9 dX3_add_15 g12 rfl ?_
    refine EV.aload_n (i := 0) dX3_add_18 rfl rfl ?_
    refine EV.getf fl_X3_15 dX3_add_19 g12 rfl ?_
    refine EV.iload_n (i := 1) dX3_add_22 rfl rfl ?_
    refine EV.iast dX3_add_23 g13 (K.1) (rfl) (by omega) ?_
    refine EV.hps (h' := HP G h A N ((K.1, (uI K.2 K.1 z)), (F, P, T, V), O, im, IL) X) (wK2 hA _) ?_
    have g12 : (HP G h A N ((K.1, (uI K.2 K.1 z)), (F, P, T, V), O, im, IL) X) (A 12) = some (obj 3 [.ref (A 13), .int (zI ((K.1 : Int)))]) := hGet hA _ _ 12 (by decide)
    have g13 : (HP G h A N ((K.1, (uI K.2 K.1 z)), (F, P, T, V), O, im, IL) X) (A 13) = some (arI G 60 (uI K.2 K.1 z)) := hGet hA _ _ 13 (by decide)
    refine EV.aload_n (i := 0) dX3_add_24 rfl rfl ?_
    refine EV.dup dX3_add_25 rfl ?_
    refine EV.getf fl_X3_15 dX3_add_26 g12 rfl ?_
    refine EV.iconst dX3_add_29 ?_
    refine EV.iadd dX3_add_30 ?_
    refine EV.putf (fs' := [.ref (A 13), .int (zI (((K.1 : Int) + 1)))]) fp_X3_15 dX3_add_31 g12 (Nat.le_of_ble_eq_true rfl) rfl rfl rfl ?_
    refine EV.hps (h' := HP G h A N (((K.1 + 1), (uI K.2 K.1 z)), (F, P, T, V), O, im, IL) X) (wK1 hA (K.1 + 1)) ?_
    have g12 : (HP G h A N (((K.1 + 1), (uI K.2 K.1 z)), (F, P, T, V), O, im, IL) X) (A 12) = some (obj 3 [.ref (A 13), .int (zI (((K.1 + 1 : Nat) : Int)))]) := hGet hA _ _ 12 (by decide)
    have g13 : (HP G h A N (((K.1 + 1), (uI K.2 K.1 z)), (F, P, T, V), O, im, IL) X) (A 13) = some (arI G 60 (uI K.2 K.1 z)) := hGet hA _ _ 13 (by decide)
    refine EV.iconst dX3_add_34 ?_
    refine EV.zret rfl (by decide) dX3_add_35 ?_
    exact Or.inl ⟨by omega, rfl, rfl⟩
  · skip
    have c9r := of_nrg c9
    refine EV.iconst dX3_add_12 ?_
    refine EV.zret rfl (by decide) dX3_add_13 ?_
    exact Or.inr ⟨by omega, rfl, rfl⟩
set_option maxHeartbeats 4000000 in
set_option maxRecDepth 20000 in
theorem c_X5_add (d : Nat) (hA : inA A N) (t s : Int) (hT : T.1 ≤ 6) : CT G l mX5_add (d + 2) 0 0 [.ref (A 23), .int (zI (t)), .int (zI (s))] (HP G h A N (K, (F, P, T, V), O, im, IL) X) (fun o h' => (T.1 < 6 ∧ o = some (.int (zI 1)) ∧ h' = HP G h A N (K, (F, P, ((T.1 + 1), (uI T.2.1 T.1 t), (uI T.2.2 T.1 s)), V), O, im, IL) X) ∨ (6 ≤ T.1 ∧ o = some (.int (zI 0)) ∧ h' = HP G h A N (K, (F, P, T, V), O, im, IL) X)) := by
  refine CT.of (by decide) (Nat.le_of_ble_eq_true rfl) (List.forall_mem_cons.mpr ⟨rfl, List.forall_mem_cons.mpr ⟨rfl, List.forall_mem_cons.mpr ⟨rfl, fun _ h => absurd h List.not_mem_nil⟩⟩⟩) ?_
  refine EV.lvs (lv' := [some (.ref (A 23)), some (.int (zI (t))), some (.int (zI (s)))]) rfl ?_
  have g23 : (HP G h A N (K, (F, P, T, V), O, im, IL) X) (A 23) = some (obj 5 [.int (zI ((T.1 : Int))), .ref (A 24), .ref (A 25)]) := hGet hA _ _ 23 (by decide)
  have g24 : (HP G h A N (K, (F, P, T, V), O, im, IL) X) (A 24) = some (arI G 6 T.2.1) := hGet hA _ _ 24 (by decide)
  have g25 : (HP G h A N (K, (F, P, T, V), O, im, IL) X) (A 25) = some (arI G 6 T.2.2) := hGet hA _ _ 25 (by decide)
  refine EV.aload_n (i := 0) dX5_add_0 rfl rfl ?_
  refine EV.getf fl_X5_18 dX5_add_1 g23 rfl ?_
  refine EV.bipush dX5_add_4 (by decide) ?_
  refine EV.callSNr (M' := mX6_isOneOf) (as := [.int (zI ((T.1 : Int))), .int (zI (6))]) (rest := []) (host := RX6) (by decide) sm_X6_isOneOf co_X6_isOneOf dX5_add_6 (c_X6_isOneOf (d + 0) (T.1 : Int) 6 (by omega) (by omega)) rfl rfl (Nat.le_of_ble_eq_true rfl) ?_
  refine EV.ifneB (t := 14) dX5_add_9 (by decide) (fun c9 => ?_) (fun c9 => ?_)
  · skip
    have c9r := of_rg c9
    refine EV.aload_n (i := 0) dX5_add_14 rfl rfl ?_
    refine EV.getf fl_X5_9 dX5_add_15 g23 rfl ?_
    refine EV.aload_n (i := 0) dX5_add_18 rfl rfl ?_
    refine EV.getf fl_X5_18 dX5_add_19 g23 rfl ?_
    refine EV.iload_n (i := 1) dX5_add_22 rfl rfl ?_
    refine EV.iast dX5_add_23 g24 (T.1) (rfl) (by omega) ?_
    refine EV.hps (h' := HP G h A N (K, (F, P, (T.1, (uI T.2.1 T.1 t), T.2.2), V), O, im, IL) X) (wTd hA _) ?_
    have g23 : (HP G h A N (K, (F, P, (T.1, (uI T.2.1 T.1 t), T.2.2), V), O, im, IL) X) (A 23) = some (obj 5 [.int (zI ((T.1 : Int))), .ref (A 24), .ref (A 25)]) := hGet hA _ _ 23 (by decide)
    have g24 : (HP G h A N (K, (F, P, (T.1, (uI T.2.1 T.1 t), T.2.2), V), O, im, IL) X) (A 24) = some (arI G 6 (uI T.2.1 T.1 t)) := hGet hA _ _ 24 (by decide)
    have g25 : (HP G h A N (K, (F, P, (T.1, (uI T.2.1 T.1 t), T.2.2), V), O, im, IL) X) (A 25) = some (arI G 6 T.2.2) := hGet hA _ _ 25 (by decide)
    refine EV.aload_n (i := 0) dX5_add_24 rfl rfl ?_
    refine EV.getf fl_X5_15 dX5_add_25 g23 rfl ?_
    refine EV.aload_n (i := 0) dX5_add_28 rfl rfl ?_
    refine EV.getf fl_X5_18 dX5_add_29 g23 rfl ?_
    refine EV.iload_n (i := 2) dX5_add_32 rfl rfl ?_
    refine EV.iast dX5_add_33 g25 (T.1) (rfl) (by omega) ?_
    refine EV.hps (h' := HP G h A N (K, (F, P, (T.1, (uI T.2.1 T.1 t), (uI T.2.2 T.1 s)), V), O, im, IL) X) (wTs hA _) ?_
    have g23 : (HP G h A N (K, (F, P, (T.1, (uI T.2.1 T.1 t), (uI T.2.2 T.1 s)), V), O, im, IL) X) (A 23) = some (obj 5 [.int (zI ((T.1 : Int))), .ref (A 24), .ref (A 25)]) := hGet hA _ _ 23 (by decide)
    have g24 : (HP G h A N (K, (F, P, (T.1, (uI T.2.1 T.1 t), (uI T.2.2 T.1 s)), V), O, im, IL) X) (A 24) = some (arI G 6 (uI T.2.1 T.1 t)) := hGet hA _ _ 24 (by decide)
    have g25 : (HP G h A N (K, (F, P, (T.1, (uI T.2.1 T.1 t), (uI T.2.2 T.1 s)), V), O, im, IL) X) (A 25) = some (arI G 6 (uI T.2.2 T.1 s)) := hGet hA _ _ 25 (by decide)
    refine EV.aload_n (i := 0) dX5_add_34 rfl rfl ?_
    refine EV.dup dX5_add_35 rfl ?_
    refine EV.getf fl_X5_18 dX5_add_36 g23 rfl ?_
    refine EV.iconst dX5_add_39 ?_
    refine EV.iadd dX5_add_40 ?_
    refine EV.putf (fs' := [.int (zI (((T.1 : Int) + 1))), .ref (A 24), .ref (A 25)]) fp_X5_18 dX5_add_41 g23 (Nat.le_of_ble_eq_true rfl) rfl rfl rfl ?_
    refine EV.hps (h' := HP G h A N (K, (F, P, ((T.1 + 1), (uI T.2.1 T.1 t), (uI T.2.2 T.1 s)), V), O, im, IL) X) (wT1 hA (T.1 + 1)) ?_
    have g23 : (HP G h A N (K, (F, P, ((T.1 + 1), (uI T.2.1 T.1 t), (uI T.2.2 T.1 s)), V), O, im, IL) X) (A 23) = some (obj 5 [.int (zI (((T.1 + 1 : Nat) : Int))), .ref (A 24), .ref (A 25)]) := hGet hA _ _ 23 (by decide)
    have g24 : (HP G h A N (K, (F, P, ((T.1 + 1), (uI T.2.1 T.1 t), (uI T.2.2 T.1 s)), V), O, im, IL) X) (A 24) = some (arI G 6 (uI T.2.1 T.1 t)) := hGet hA _ _ 24 (by decide)
    have g25 : (HP G h A N (K, (F, P, ((T.1 + 1), (uI T.2.1 T.1 t), (uI T.2.2 T.1 s)), V), O, im, IL) X) (A 25) = some (arI G 6 (uI T.2.2 T.1 s)) := hGet hA _ _ 25 (by decide)
    refine EV.iconst dX5_add_44 ?_
    refine EV.zret rfl (by decide) dX5_add_45 ?_
    exact Or.inl ⟨by omega, rfl, rfl⟩
  · skip
    have c9r := of_nrg c9
    refine EV.iconst dX5_add_12 ?_
    refine EV.zret rfl (by decide) dX5_add_13 ?_
    exact Or.inr ⟨by omega, rfl, rfl⟩
set_option maxHeartbeats 4000000 in
set_option maxRecDepth 20000 in
theorem c_X0_settle (d : Nat) (hA : inA A N) (hW : WF F) (p : Nat) (bi : Int) (hp : p < 6) (hKo : ofK K = -6) : CT G l mX0_settle (d + 3) 0 0 [.ref (A 15), .int (zI ((p : Int))), .int (zI (bi)), .ref (A 12)] (HP G h A N (K, (F, P, T, V), O, im, IL) X) (fun o h' => o = none ∧ h' = HP G h A N (K, (bornF F p bi K, P, T, V), O, im, IL) X) := by
  refine CT.of (by decide) (Nat.le_of_ble_eq_true rfl) (List.forall_mem_cons.mpr ⟨rfl, List.forall_mem_cons.mpr ⟨rfl, List.forall_mem_cons.mpr ⟨rfl, List.forall_mem_cons.mpr ⟨rfl, fun _ h => absurd h List.not_mem_nil⟩⟩⟩⟩) ?_
  refine EV.lvs (lv' := [some (.ref (A 15)), some (.int (zI ((p : Int)))), some (.int (zI (bi))), some (.ref (A 12)), none]) rfl ?_
  have g12 : (HP G h A N (K, (F, P, T, V), O, im, IL) X) (A 12) = some (obj 3 [.ref (A 13), .int (zI ((K.1 : Int)))]) := hGet hA _ _ 12 (by decide)
  have g13 : (HP G h A N (K, (F, P, T, V), O, im, IL) X) (A 13) = some (arI G 60 K.2) := hGet hA _ _ 13 (by decide)
  have g15 : (HP G h A N (K, (F, P, T, V), O, im, IL) X) (A 15) = some (obj 0 [.int (zI ((F.1 : Int))), .ref (A 16), .ref (A 17), .ref (A 18), .ref (A 19)]) := hGet hA _ _ 15 (by decide)
  have g16 : (HP G h A N (K, (F, P, T, V), O, im, IL) X) (A 16) = some (arI G 6 F.2.1) := hGet hA _ _ 16 (by decide)
  have g17 : (HP G h A N (K, (F, P, T, V), O, im, IL) X) (A 17) = some (arI G 6 F.2.2.1) := hGet hA _ _ 17 (by decide)
  have g18 : (HP G h A N (K, (F, P, T, V), O, im, IL) X) (A 18) = some (arI G 48 F.2.2.2) := hGet hA _ _ 18 (by decide)
  obtain ⟨hk8, hkl⟩ := ofK_ok hKo
  refine EV.iload_n (i := 1) dX0_settle_0 rfl rfl ?_
  refine EV.bipush dX0_settle_1 (by decide) ?_
  refine EV.callSNr (M' := mX6_isOneOf) (as := [.int (zI ((p : Int))), .int (zI (6))]) (rest := []) (host := RX6) (by decide) sm_X6_isOneOf co_X6_isOneOf dX0_settle_3 (c_X6_isOneOf (d + 1) (p : Int) 6 (by omega) (by omega)) rfl rfl (Nat.le_of_ble_eq_true rfl) ?_
  refine EV.ifeqB (t := 22) dX0_settle_6 (by decide) (fun c6 => ?_) (fun c6 => ?_)
  · skip
    have c6r := of_nrg c6
    omega
  · skip
    have c6r := of_rg c6
    refine EV.aload_n (i := 3) dX0_settle_9 rfl rfl ?_
    refine EV.isnull dX0_settle_10 ?_
    refine EV.aload_n (i := 3) dX0_settle_13 rfl rfl ?_
    refine EV.getf fl_X0_38 dX0_settle_14 g12 rfl ?_
    refine EV.bipush dX0_settle_17 (by decide) ?_
    refine EV.icmp_le (t := 23) dX0_settle_19 (by decide) (by omega) (fun c19 => ?_) (fun c19 => ?_)
    · skip
      refine EV.aload_n (i := 0) dX0_settle_23 rfl rfl ?_
      refine EV.dup dX0_settle_24 rfl ?_
      refine EV.getf fl_X0_24 dX0_settle_25 g15 rfl ?_
      refine EV.iconst dX0_settle_28 ?_
      refine EV.iload_n (i := 1) dX0_settle_29 rfl rfl ?_
      refine EV.ishlW dX0_settle_30 ?_
      refine EV.iorW dX0_settle_31 ?_
      refine EV.top (y := zI (((F.1 ||| 2 ^ p : Nat) : Int))) (zI_orj (by omega)) ?_
      refine EV.putf (fs' := [.int (zI (((F.1 ||| 2 ^ p : Nat) : Int))), .ref (A 16), .ref (A 17), .ref (A 18), .ref (A 19)]) fp_X0_24 dX0_settle_32 g15 (Nat.le_of_ble_eq_true rfl) rfl rfl rfl ?_
      refine EV.hps (h' := HP G h A N (K, (((F.1 ||| 2 ^ p), F.2.1, F.2.2.1, F.2.2.2), P, T, V), O, im, IL) X) (wF1 hA (F.1 ||| 2 ^ p)) ?_
      have g12 : (HP G h A N (K, (((F.1 ||| 2 ^ p), F.2.1, F.2.2.1, F.2.2.2), P, T, V), O, im, IL) X) (A 12) = some (obj 3 [.ref (A 13), .int (zI ((K.1 : Int)))]) := hGet hA _ _ 12 (by decide)
      have g13 : (HP G h A N (K, (((F.1 ||| 2 ^ p), F.2.1, F.2.2.1, F.2.2.2), P, T, V), O, im, IL) X) (A 13) = some (arI G 60 K.2) := hGet hA _ _ 13 (by decide)
      have g15 : (HP G h A N (K, (((F.1 ||| 2 ^ p), F.2.1, F.2.2.1, F.2.2.2), P, T, V), O, im, IL) X) (A 15) = some (obj 0 [.int (zI (((F.1 ||| 2 ^ p : Nat) : Int))), .ref (A 16), .ref (A 17), .ref (A 18), .ref (A 19)]) := hGet hA _ _ 15 (by decide)
      have g16 : (HP G h A N (K, (((F.1 ||| 2 ^ p), F.2.1, F.2.2.1, F.2.2.2), P, T, V), O, im, IL) X) (A 16) = some (arI G 6 F.2.1) := hGet hA _ _ 16 (by decide)
      have g17 : (HP G h A N (K, (((F.1 ||| 2 ^ p), F.2.1, F.2.2.1, F.2.2.2), P, T, V), O, im, IL) X) (A 17) = some (arI G 6 F.2.2.1) := hGet hA _ _ 17 (by decide)
      have g18 : (HP G h A N (K, (((F.1 ||| 2 ^ p), F.2.1, F.2.2.1, F.2.2.2), P, T, V), O, im, IL) X) (A 18) = some (arI G 48 F.2.2.2) := hGet hA _ _ 18 (by decide)
      refine EV.aload_n (i := 0) dX0_settle_35 rfl rfl ?_
      refine EV.getf fl_X0_9 dX0_settle_36 g15 rfl ?_
      refine EV.iload_n (i := 1) dX0_settle_39 rfl rfl ?_
      refine EV.iload_n (i := 2) dX0_settle_40 rfl rfl ?_
      refine EV.iast dX0_settle_41 g16 (p) (rfl) (by omega) ?_
      refine EV.hps (h' := HP G h A N (K, (((F.1 ||| 2 ^ p), (uI F.2.1 p bi), F.2.2.1, F.2.2.2), P, T, V), O, im, IL) X) (wFB hA _) ?_
      have g12 : (HP G h A N (K, (((F.1 ||| 2 ^ p), (uI F.2.1 p bi), F.2.2.1, F.2.2.2), P, T, V), O, im, IL) X) (A 12) = some (obj 3 [.ref (A 13), .int (zI ((K.1 : Int)))]) := hGet hA _ _ 12 (by decide)
      have g13 : (HP G h A N (K, (((F.1 ||| 2 ^ p), (uI F.2.1 p bi), F.2.2.1, F.2.2.2), P, T, V), O, im, IL) X) (A 13) = some (arI G 60 K.2) := hGet hA _ _ 13 (by decide)
      have g15 : (HP G h A N (K, (((F.1 ||| 2 ^ p), (uI F.2.1 p bi), F.2.2.1, F.2.2.2), P, T, V), O, im, IL) X) (A 15) = some (obj 0 [.int (zI (((F.1 ||| 2 ^ p : Nat) : Int))), .ref (A 16), .ref (A 17), .ref (A 18), .ref (A 19)]) := hGet hA _ _ 15 (by decide)
      have g16 : (HP G h A N (K, (((F.1 ||| 2 ^ p), (uI F.2.1 p bi), F.2.2.1, F.2.2.2), P, T, V), O, im, IL) X) (A 16) = some (arI G 6 (uI F.2.1 p bi)) := hGet hA _ _ 16 (by decide)
      have g17 : (HP G h A N (K, (((F.1 ||| 2 ^ p), (uI F.2.1 p bi), F.2.2.1, F.2.2.2), P, T, V), O, im, IL) X) (A 17) = some (arI G 6 F.2.2.1) := hGet hA _ _ 17 (by decide)
      have g18 : (HP G h A N (K, (((F.1 ||| 2 ^ p), (uI F.2.1 p bi), F.2.2.1, F.2.2.2), P, T, V), O, im, IL) X) (A 18) = some (arI G 48 F.2.2.2) := hGet hA _ _ 18 (by decide)
      refine EV.aload_n (i := 0) dX0_settle_42 rfl rfl ?_
      refine EV.getf fl_X0_15 dX0_settle_43 g15 rfl ?_
      refine EV.iload_n (i := 1) dX0_settle_46 rfl rfl ?_
      refine EV.aload_n (i := 3) dX0_settle_47 rfl rfl ?_
      refine EV.getf fl_X0_38 dX0_settle_48 g12 rfl ?_
      refine EV.iast dX0_settle_51 g17 (p) (rfl) (by omega) ?_
      refine EV.hps (h' := HP G h A N (K, (((F.1 ||| 2 ^ p), (uI F.2.1 p bi), (uI F.2.2.1 p (K.1 : Int)), F.2.2.2), P, T, V), O, im, IL) X) (wFS hA _) ?_
      have g12 : (HP G h A N (K, (((F.1 ||| 2 ^ p), (uI F.2.1 p bi), (uI F.2.2.1 p (K.1 : Int)), F.2.2.2), P, T, V), O, im, IL) X) (A 12) = some (obj 3 [.ref (A 13), .int (zI ((K.1 : Int)))]) := hGet hA _ _ 12 (by decide)
      have g13 : (HP G h A N (K, (((F.1 ||| 2 ^ p), (uI F.2.1 p bi), (uI F.2.2.1 p (K.1 : Int)), F.2.2.2), P, T, V), O, im, IL) X) (A 13) = some (arI G 60 K.2) := hGet hA _ _ 13 (by decide)
      have g15 : (HP G h A N (K, (((F.1 ||| 2 ^ p), (uI F.2.1 p bi), (uI F.2.2.1 p (K.1 : Int)), F.2.2.2), P, T, V), O, im, IL) X) (A 15) = some (obj 0 [.int (zI (((F.1 ||| 2 ^ p : Nat) : Int))), .ref (A 16), .ref (A 17), .ref (A 18), .ref (A 19)]) := hGet hA _ _ 15 (by decide)
      have g16 : (HP G h A N (K, (((F.1 ||| 2 ^ p), (uI F.2.1 p bi), (uI F.2.2.1 p (K.1 : Int)), F.2.2.2), P, T, V), O, im, IL) X) (A 16) = some (arI G 6 (uI F.2.1 p bi)) := hGet hA _ _ 16 (by decide)
      have g17 : (HP G h A N (K, (((F.1 ||| 2 ^ p), (uI F.2.1 p bi), (uI F.2.2.1 p (K.1 : Int)), F.2.2.2), P, T, V), O, im, IL) X) (A 17) = some (arI G 6 (uI F.2.2.1 p (K.1 : Int))) := hGet hA _ _ 17 (by decide)
      have g18 : (HP G h A N (K, (((F.1 ||| 2 ^ p), (uI F.2.1 p bi), (uI F.2.2.1 p (K.1 : Int)), F.2.2.2), P, T, V), O, im, IL) X) (A 18) = some (arI G 48 F.2.2.2) := hGet hA _ _ 18 (by decide)
      refine EV.iconst dX0_settle_52 ?_
      refine EV.istore (i := 4) (lv' := [some (.ref (A 15)), some (.int (zI ((p : Int)))), some (.int (zI (bi))), some (.ref (A 12)), some (.int (zI (0)))]) dX0_settle_53 (by decide) rfl ?_
      have L55 : ∀ (n55 : Nat) (k : Nat) (x4 : Int) (hh : Hp), (k ≤ K.1) → K.1 - k < n55 → x4 = (k : Int) → hh = HP G h A N (K, (((F.1 ||| 2 ^ p), (uI F.2.1 p bi), (uI F.2.2.1 p (K.1 : Int)), (soO F.2.2.2 p K k)), P, T, V), O, im, IL) X → EV G l mX0_settle (d + 3) (fun o h' => o = none ∧ h' = HP G h A N (K, (bornF F p bi K, P, T, V), O, im, IL) X) 55 [some (.ref (A 15)), some (.int (zI ((p : Int)))), some (.int (zI (bi))), some (.ref (A 12)), some (.int (zI (x4)))] [] hh 0 0 := by
        intro n55
        induction n55 with
        | zero => intro _ _ _ _ hm; exact absurd hm (Nat.not_lt_zero _)
        | succ n55 ih55 =>
          intro k x4 hh hk hm55 e4 eh
          subst e4 eh
          have g12 : (HP G h A N (K, (((F.1 ||| 2 ^ p), (uI F.2.1 p bi), (uI F.2.2.1 p (K.1 : Int)), (soO F.2.2.2 p K k)), P, T, V), O, im, IL) X) (A 12) = some (obj 3 [.ref (A 13), .int (zI ((K.1 : Int)))]) := hGet hA _ _ 12 (by decide)
          have g13 : (HP G h A N (K, (((F.1 ||| 2 ^ p), (uI F.2.1 p bi), (uI F.2.2.1 p (K.1 : Int)), (soO F.2.2.2 p K k)), P, T, V), O, im, IL) X) (A 13) = some (arI G 60 K.2) := hGet hA _ _ 13 (by decide)
          have g15 : (HP G h A N (K, (((F.1 ||| 2 ^ p), (uI F.2.1 p bi), (uI F.2.2.1 p (K.1 : Int)), (soO F.2.2.2 p K k)), P, T, V), O, im, IL) X) (A 15) = some (obj 0 [.int (zI (((F.1 ||| 2 ^ p : Nat) : Int))), .ref (A 16), .ref (A 17), .ref (A 18), .ref (A 19)]) := hGet hA _ _ 15 (by decide)
          have g16 : (HP G h A N (K, (((F.1 ||| 2 ^ p), (uI F.2.1 p bi), (uI F.2.2.1 p (K.1 : Int)), (soO F.2.2.2 p K k)), P, T, V), O, im, IL) X) (A 16) = some (arI G 6 (uI F.2.1 p bi)) := hGet hA _ _ 16 (by decide)
          have g17 : (HP G h A N (K, (((F.1 ||| 2 ^ p), (uI F.2.1 p bi), (uI F.2.2.1 p (K.1 : Int)), (soO F.2.2.2 p K k)), P, T, V), O, im, IL) X) (A 17) = some (arI G 6 (uI F.2.2.1 p (K.1 : Int))) := hGet hA _ _ 17 (by decide)
          have g18 : (HP G h A N (K, (((F.1 ||| 2 ^ p), (uI F.2.1 p bi), (uI F.2.2.1 p (K.1 : Int)), (soO F.2.2.2 p K k)), P, T, V), O, im, IL) X) (A 18) = some (arI G 48 (soO F.2.2.2 p K k)) := hGet hA _ _ 18 (by decide)
          refine EV.iload (i := 4) dX0_settle_55 rfl ?_
          refine EV.aload_n (i := 3) dX0_settle_57 rfl rfl ?_
          refine EV.getf fl_X0_38 dX0_settle_58 g12 rfl ?_
          refine EV.icmp_ge (t := 91) dX0_settle_61 (by decide) (by omega) (fun c61 => ?_) (fun c61 => ?_)
          · skip
            obtain rfl : k = K.1 := by omega
            refine EV.vret rfl dX0_settle_91 ?_
            exact ⟨rfl, rfl⟩
          · skip
            refine EV.aload_n (i := 0) dX0_settle_64 rfl rfl ?_
            refine EV.getf fl_X0_18 dX0_settle_65 g15 rfl ?_
            refine EV.iload_n (i := 1) dX0_settle_68 rfl rfl ?_
            refine EV.bipush dX0_settle_69 (by decide) ?_
            refine EV.imul dX0_settle_71 ?_
            refine EV.iload (i := 4) dX0_settle_72 rfl ?_
            refine EV.iadd dX0_settle_74 ?_
            refine EV.aload_n (i := 3) dX0_settle_75 rfl rfl ?_
            refine EV.iload (i := 4) dX0_settle_76 rfl ?_
            refine EV.callVr (M' := mX3_signAt) (as := [.int (zI ((k : Int)))]) (rest := [.int (zI ((((p : Int) * 8) + (k : Int)))), .ref (A 18)]) ml_X0_43 im_X3_signAt se_X3_signAt rfl co_X3_signAt dX0_settle_78 g12 (c_X3_signAt (F := (F.1 ||| 2 ^ p, uI F.2.1 p bi, uI F.2.2.1 p (K.1 : Int), soO F.2.2.2 p K k)) (d + 0) hA k (by omega)) rfl rfl (Nat.le_of_ble_eq_true rfl) ?_
            refine EV.bipush dX0_settle_81 (by decide) ?_
            refine EV.isub dX0_settle_83 ?_
            refine EV.iast dX0_settle_84 g18 (8 * p + k) (by omega) (by omega) ?_
            refine EV.hps (h' := HP G h A N (K, (((F.1 ||| 2 ^ p), (uI F.2.1 p bi), (uI F.2.2.1 p (K.1 : Int)), (uI (soO F.2.2.2 p K k) (8 * p + k) (K.2 k - 97))), P, T, V), O, im, IL) X) (wFO hA _) ?_
            have g12 : (HP G h A N (K, (((F.1 ||| 2 ^ p), (uI F.2.1 p bi), (uI F.2.2.1 p (K.1 : Int)), (uI (soO F.2.2.2 p K k) (8 * p + k) (K.2 k - 97))), P, T, V), O, im, IL) X) (A 12) = some (obj 3 [.ref (A 13), .int (zI ((K.1 : Int)))]) := hGet hA _ _ 12 (by decide)
            have g13 : (HP G h A N (K, (((F.1 ||| 2 ^ p), (uI F.2.1 p bi), (uI F.2.2.1 p (K.1 : Int)), (uI (soO F.2.2.2 p K k) (8 * p + k) (K.2 k - 97))), P, T, V), O, im, IL) X) (A 13) = some (arI G 60 K.2) := hGet hA _ _ 13 (by decide)
            have g15 : (HP G h A N (K, (((F.1 ||| 2 ^ p), (uI F.2.1 p bi), (uI F.2.2.1 p (K.1 : Int)), (uI (soO F.2.2.2 p K k) (8 * p + k) (K.2 k - 97))), P, T, V), O, im, IL) X) (A 15) = some (obj 0 [.int (zI (((F.1 ||| 2 ^ p : Nat) : Int))), .ref (A 16), .ref (A 17), .ref (A 18), .ref (A 19)]) := hGet hA _ _ 15 (by decide)
            have g16 : (HP G h A N (K, (((F.1 ||| 2 ^ p), (uI F.2.1 p bi), (uI F.2.2.1 p (K.1 : Int)), (uI (soO F.2.2.2 p K k) (8 * p + k) (K.2 k - 97))), P, T, V), O, im, IL) X) (A 16) = some (arI G 6 (uI F.2.1 p bi)) := hGet hA _ _ 16 (by decide)
            have g17 : (HP G h A N (K, (((F.1 ||| 2 ^ p), (uI F.2.1 p bi), (uI F.2.2.1 p (K.1 : Int)), (uI (soO F.2.2.2 p K k) (8 * p + k) (K.2 k - 97))), P, T, V), O, im, IL) X) (A 17) = some (arI G 6 (uI F.2.2.1 p (K.1 : Int))) := hGet hA _ _ 17 (by decide)
            have g18 : (HP G h A N (K, (((F.1 ||| 2 ^ p), (uI F.2.1 p bi), (uI F.2.2.1 p (K.1 : Int)), (uI (soO F.2.2.2 p K k) (8 * p + k) (K.2 k - 97))), P, T, V), O, im, IL) X) (A 18) = some (arI G 48 (uI (soO F.2.2.2 p K k) (8 * p + k) (K.2 k - 97))) := hGet hA _ _ 18 (by decide)
            refine EV.iinc (i := 4) (lv' := [some (.ref (A 15)), some (.int (zI ((p : Int)))), some (.int (zI (bi))), some (.ref (A 12)), some (.int (zI ((k : Int) + 1)))]) dX0_settle_85 rfl (by decide) rfl ?_
            refine EV.goto (t := 55) dX0_settle_88 (by decide) ?_
            exact ih55 (k + 1) _ _ (by omega) (by omega) (rfl) (rfl)
      exact L55 _ 0 _ _ (by omega) (Nat.lt_succ_self _) (rfl) (rfl)
    · skip
      omega
set_option maxHeartbeats 4000000 in
set_option maxRecDepth 20000 in
theorem c_X4_read (d : Nat) (hA : inA A N) (hK : WFK K) (hpf : pfK K = -6) : CT G l mX4_read (d + 3) 0 0 [.ref (A 20), .ref (A 12)] (HP G h A N (K, (F, P, T, V), O, im, IL) X) (fun o h' => o = none ∧ h' = HP G h A N (K, (F, rdS K P K.1, T, V), O, im, IL) X) := by
  refine CT.of (by decide) (Nat.le_of_ble_eq_true rfl) (List.forall_mem_cons.mpr ⟨rfl, List.forall_mem_cons.mpr ⟨rfl, fun _ h => absurd h List.not_mem_nil⟩⟩) ?_
  refine EV.lvs (lv' := [some (.ref (A 20)), some (.ref (A 12)), none, none, none]) rfl ?_
  have g12 : (HP G h A N (K, (F, P, T, V), O, im, IL) X) (A 12) = some (obj 3 [.ref (A 13), .int (zI ((K.1 : Int)))]) := hGet hA _ _ 12 (by decide)
  have g13 : (HP G h A N (K, (F, P, T, V), O, im, IL) X) (A 13) = some (arI G 60 K.2) := hGet hA _ _ 13 (by decide)
  have g20 : (HP G h A N (K, (F, P, T, V), O, im, IL) X) (A 20) = some (obj 4 [.int (zI ((P.1 : Int))), .ref (A 21), .ref (A 22)]) := hGet hA _ _ 20 (by decide)
  have g21 : (HP G h A N (K, (F, P, T, V), O, im, IL) X) (A 21) = some (arI G 6 P.2.1) := hGet hA _ _ 21 (by decide)
  have g22 : (HP G h A N (K, (F, P, T, V), O, im, IL) X) (A 22) = some (arI G 6 (nf P.2.2)) := hGet hA _ _ 22 (by decide)
  have hK6 := hK.1
  refine EV.aload_n (i := 1) dX4_read_0 rfl rfl ?_
  refine EV.nonnull (t := 5) dX4_read_1 (by decide) ?_
  refine EV.aload_n (i := 0) dX4_read_5 rfl rfl ?_
  refine EV.iconst dX4_read_6 ?_
  refine EV.putf (fs' := [.int (zI (0)), .ref (A 21), .ref (A 22)]) fp_X4_18 dX4_read_7 g20 (Nat.le_of_ble_eq_true rfl) rfl rfl rfl ?_
  refine EV.hps (h' := HP G h A N (K, (F, rdS K P 0, T, V), O, im, IL) X) (wP1 hA 0) ?_
  refine EV.iconst dX4_read_10 ?_
  refine EV.istore_n (i := 2) (lv' := [some (.ref (A 20)), some (.ref (A 12)), some (.int (zI (0))), none, none]) dX4_read_11 rfl (by decide) rfl ?_
  have L12 : ∀ (n12 : Nat) (k : Nat) (w : Nat) (s : Int) (x2 : Int) (hh : Hp), (k ≤ K.1) → (RI K P k w s) → (pfr K (K.1 - k) k w s = -6) → K.1 - k < n12 → x2 = (k : Int) → hh = HP G h A N (K, (F, rdS K P k, T, V), O, im, IL) X → EV G l mX4_read (d + 3) (fun o h' => o = none ∧ h' = HP G h A N (K, (F, rdS K P K.1, T, V), O, im, IL) X) 12 [some (.ref (A 20)), some (.ref (A 12)), some (.int (zI (x2))), none, none] [] hh 0 0 := by
    intro n12
    induction n12 with
    | zero => intro _ _ _ _ _ _ _ _ hm; exact absurd hm (Nat.not_lt_zero _)
    | succ n12 ih12 =>
      intro k w s x2 hh hk hR hx hm12 e2 eh
      subst e2 eh
      have g12 : (HP G h A N (K, (F, rdS K P k, T, V), O, im, IL) X) (A 12) = some (obj 3 [.ref (A 13), .int (zI ((K.1 : Int)))]) := hGet hA _ _ 12 (by decide)
      have g13 : (HP G h A N (K, (F, rdS K P k, T, V), O, im, IL) X) (A 13) = some (arI G 60 K.2) := hGet hA _ _ 13 (by decide)
      have g20 : (HP G h A N (K, (F, rdS K P k, T, V), O, im, IL) X) (A 20) = some (obj 4 [.int (zI ((((rdS K P k).1 : Nat) : Int))), .ref (A 21), .ref (A 22)]) := hGet hA _ _ 20 (by decide)
      have g21 : (HP G h A N (K, (F, rdS K P k, T, V), O, im, IL) X) (A 21) = some (arI G 6 ((rdS K P k).2.1)) := hGet hA _ _ 21 (by decide)
      have g22 : (HP G h A N (K, (F, rdS K P k, T, V), O, im, IL) X) (A 22) = some (arI G 6 (nf ((rdS K P k).2.2))) := hGet hA _ _ 22 (by decide)
      have hRw := hR.1
      have hR6 := hR.2.1
      refine EV.iload_n (i := 2) dX4_read_12 rfl rfl ?_
      refine EV.aload_n (i := 1) dX4_read_13 rfl rfl ?_
      refine EV.getf fl_X4_28 dX4_read_14 g12 rfl ?_
      refine EV.icmp_ge (t := 138) dX4_read_17 (by decide) (by omega) (fun c17 => ?_) (fun c17 => ?_)
      · skip
        obtain rfl : k = K.1 := by omega
        refine EV.vret rfl dX4_read_138 ?_
        exact ⟨rfl, rfl⟩
      · skip
        obtain ⟨w2, s2, hp2, hx2⟩ := pf_step hx (by omega)
        have hsg := hK.2 k (by omega)
        refine EV.aload_n (i := 1) dX4_read_20 rfl rfl ?_
        refine EV.iload_n (i := 2) dX4_read_21 rfl rfl ?_
        refine EV.callVr (M' := mX3_signAt) (as := [.int (zI ((k : Int)))]) (rest := []) ml_X4_31 im_X3_signAt se_X3_signAt rfl co_X3_signAt dX4_read_22 g12 (c_X3_signAt (P := rdS K P k) (d + 0) hA k (by omega)) rfl rfl (Nat.le_of_ble_eq_true rfl) ?_
        refine EV.istore_n (i := 3) (lv' := [some (.ref (A 20)), some (.ref (A 12)), some (.int (zI ((k : Int)))), some (.int (zI (K.2 k))), none]) dX4_read_25 rfl (by decide) rfl ?_
        refine EV.aload_n (i := 0) dX4_read_26 rfl rfl ?_
        refine EV.getf fl_X4_18 dX4_read_27 g20 rfl ?_
        refine EV.iconst dX4_read_30 ?_
        refine EV.isub dX4_read_31 ?_
        refine EV.istore (i := 4) (lv' := [some (.ref (A 20)), some (.ref (A 12)), some (.int (zI ((k : Int)))), some (.int (zI (K.2 k))), some (.int (zI (((((rdS K P k).1 : Nat) : Int) - 1))))]) dX4_read_32 (by decide) rfl ?_
        refine EV.iload_n (i := 3) dX4_read_34 rfl rfl ?_
        refine EV.bipush dX4_read_35 (by decide) ?_
        refine EV.isub dX4_read_37 ?_
        refine EV.bipush dX4_read_38 (by decide) ?_
        refine EV.callSNr (M' := mX6_isOneOf) (as := [.int (zI ((K.2 k - 97))), .int (zI (8))]) (rest := []) (host := RX6) (by decide) sm_X6_isOneOf co_X6_isOneOf dX4_read_40 (c_X6_isOneOf (d + 1) (K.2 k - 97) 8 (by omega) (by omega)) rfl rfl (Nat.le_of_ble_eq_true rfl) ?_
        refine EV.ifeqB (t := 94) dX4_read_43 (by decide) (fun c43 => ?_) (fun c43 => ?_)
        · skip
          have c43r := of_nrg c43
          refine EV.iload_n (i := 3) dX4_read_94 rfl rfl ?_
          refine EV.bipush dX4_read_95 (by decide) ?_
          refine EV.isub dX4_read_97 ?_
          refine EV.bipush dX4_read_98 (by decide) ?_
          refine EV.callSNr (M' := mX6_isOneOf) (as := [.int (zI ((K.2 k - 48))), .int (zI (6))]) (rest := []) (host := RX6) (by decide) sm_X6_isOneOf co_X6_isOneOf dX4_read_100 (c_X6_isOneOf (d + 1) (K.2 k - 48) 6 (by omega) (by omega)) rfl rfl (Nat.le_of_ble_eq_true rfl) ?_
          refine EV.ifeqB (t := 132) dX4_read_103 (by decide) (fun c103 => ?_) (fun c103 => ?_)
          · skip
            have c103r := of_nrg c103
            refine EV.iinc (i := 2) (lv' := [some (.ref (A 20)), some (.ref (A 12)), some (.int (zI ((k : Int) + 1))), some (.int (zI (K.2 k))), some (.int (zI (((((rdS K P k).1 : Nat) : Int) - 1))))]) dX4_read_132 rfl (by decide) rfl ?_
            refine EV.goto (t := 12) dX4_read_135 (by decide) ?_
            refine EV.drop 3 (lv' := [some (.ref (A 20)), some (.ref (A 12)), some (.int (zI (((k : Int) + 1)))), none, some (.int (zI (((((rdS K P k).1 : Nat) : Int) - 1))))]) rfl ?_
            refine EV.drop 4 (lv' := [some (.ref (A 20)), some (.ref (A 12)), some (.int (zI (((k : Int) + 1)))), none, none]) rfl ?_
            exact ih12 (k + 1) w2 s2 _ _ (by omega) (RI_s hR hp2) (hx2) (by omega) (rfl) (by rw [rdS_c (by omega) (by omega)])
          · skip
            have c103r := of_rg c103
            have hdg := pfn_dig hp2 hR.2.2.1 (by omega)
            obtain ⟨dg, hdge⟩ : ∃ dg : Nat, K.2 k - 48 = (dg : Int) := ⟨(K.2 k - 48).toNat, by omega⟩
            refine EV.iload (i := 4) dX4_read_106 rfl ?_
            refine EV.bipush dX4_read_108 (by decide) ?_
            refine EV.callSNr (M' := mX6_isOneOf) (as := [.int (zI (((((rdS K P k).1 : Nat) : Int) - 1))), .int (zI (6))]) (rest := []) (host := RX6) (by decide) sm_X6_isOneOf co_X6_isOneOf dX4_read_110 (c_X6_isOneOf (d + 1) ((((rdS K P k).1 : Nat) : Int) - 1) 6 (by omega) (by omega)) rfl rfl (Nat.le_of_ble_eq_true rfl) ?_
            refine EV.ifeqB (t := 132) dX4_read_113 (by decide) (fun c113 => ?_) (fun c113 => ?_)
            · skip
              have c113r := of_nrg c113
              omega
            · skip
              have c113r := of_rg c113
              refine EV.aload_n (i := 0) dX4_read_116 rfl rfl ?_
              refine EV.getf fl_X4_15 dX4_read_117 g20 rfl ?_
              refine EV.iload (i := 4) dX4_read_120 rfl ?_
              refine EV.dup2 dX4_read_122 rfl rfl ?_
              refine EV.iald dX4_read_123 g22 ((rdS K P k).1 - 1) (by omega) (by omega) ?_
              refine EV.top (y := zI (((rdS K P k).2.2 ((rdS K P k).1 - 1) : Int))) (rfl) ?_
              refine EV.iconst dX4_read_124 ?_
              refine EV.iload_n (i := 3) dX4_read_125 rfl rfl ?_
              refine EV.bipush dX4_read_126 (by decide) ?_
              refine EV.isub dX4_read_128 ?_
              refine EV.top (y := zI ((dg : Int))) (by rw [hdge]) ?_
              refine EV.ishlW dX4_read_129 ?_
              refine EV.iorW dX4_read_130 ?_
              refine EV.top (y := zI ((((rdS K P k).2.2 ((rdS K P k).1 - 1) ||| 2 ^ dg : Nat) : Int))) (zI_orj (by omega)) ?_
              refine EV.iast dX4_read_131 g22 ((rdS K P k).1 - 1) (by omega) (by omega) ?_
              refine EV.hps (h' := HP G h A N (K, (F, ((rdS K P k).1, (rdS K P k).2.1, (uN (rdS K P k).2.2 ((rdS K P k).1 - 1) ((rdS K P k).2.2 ((rdS K P k).1 - 1) ||| 2 ^ dg))), T, V), O, im, IL) X) (by rw [nf_u]; exact wPw hA _) ?_
              have g12 : (HP G h A N (K, (F, ((rdS K P k).1, (rdS K P k).2.1, (uN (rdS K P k).2.2 ((rdS K P k).1 - 1) ((rdS K P k).2.2 ((rdS K P k).1 - 1) ||| 2 ^ dg))), T, V), O, im, IL) X) (A 12) = some (obj 3 [.ref (A 13), .int (zI ((K.1 : Int)))]) := hGet hA _ _ 12 (by decide)
              have g13 : (HP G h A N (K, (F, ((rdS K P k).1, (rdS K P k).2.1, (uN (rdS K P k).2.2 ((rdS K P k).1 - 1) ((rdS K P k).2.2 ((rdS K P k).1 - 1) ||| 2 ^ dg))), T, V), O, im, IL) X) (A 13) = some (arI G 60 K.2) := hGet hA _ _ 13 (by decide)
              have g20 : (HP G h A N (K, (F, ((rdS K P k).1, (rdS K P k).2.1, (uN (rdS K P k).2.2 ((rdS K P k).1 - 1) ((rdS K P k).2.2 ((rdS K P k).1 - 1) ||| 2 ^ dg))), T, V), O, im, IL) X) (A 20) = some (obj 4 [.int (zI ((((rdS K P k).1 : Nat) : Int))), .ref (A 21), .ref (A 22)]) := hGet hA _ _ 20 (by decide)
              have g21 : (HP G h A N (K, (F, ((rdS K P k).1, (rdS K P k).2.1, (uN (rdS K P k).2.2 ((rdS K P k).1 - 1) ((rdS K P k).2.2 ((rdS K P k).1 - 1) ||| 2 ^ dg))), T, V), O, im, IL) X) (A 21) = some (arI G 6 ((rdS K P k).2.1)) := hGet hA _ _ 21 (by decide)
              have g22 : (HP G h A N (K, (F, ((rdS K P k).1, (rdS K P k).2.1, (uN (rdS K P k).2.2 ((rdS K P k).1 - 1) ((rdS K P k).2.2 ((rdS K P k).1 - 1) ||| 2 ^ dg))), T, V), O, im, IL) X) (A 22) = some (arI G 6 (nf (uN (rdS K P k).2.2 ((rdS K P k).1 - 1) ((rdS K P k).2.2 ((rdS K P k).1 - 1) ||| 2 ^ dg)))) := hGet hA _ _ 22 (by decide)
              refine EV.iinc (i := 2) (lv' := [some (.ref (A 20)), some (.ref (A 12)), some (.int (zI ((k : Int) + 1))), some (.int (zI (K.2 k))), some (.int (zI (((((rdS K P k).1 : Nat) : Int) - 1))))]) dX4_read_132 rfl (by decide) rfl ?_
              refine EV.goto (t := 12) dX4_read_135 (by decide) ?_
              refine EV.drop 3 (lv' := [some (.ref (A 20)), some (.ref (A 12)), some (.int (zI (((k : Int) + 1)))), none, some (.int (zI (((((rdS K P k).1 : Nat) : Int) - 1))))]) rfl ?_
              refine EV.drop 4 (lv' := [some (.ref (A 20)), some (.ref (A 12)), some (.int (zI (((k : Int) + 1)))), none, none]) rfl ?_
              exact ih12 (k + 1) w2 s2 _ _ (by omega) (RI_s hR hp2) (hx2) (by omega) (rfl) (by rw [rdS_b (by omega), hdge, Int.toNat_natCast])
        · skip
          have c43r := of_rg c43
          have hlt := pfn_let hp2 hR.2.2.1 (by omega)
          refine EV.aload_n (i := 0) dX4_read_46 rfl rfl ?_
          refine EV.getf fl_X4_18 dX4_read_47 g20 rfl ?_
          refine EV.bipush dX4_read_50 (by decide) ?_
          refine EV.callSNr (M' := mX6_isOneOf) (as := [.int (zI ((((rdS K P k).1 : Nat) : Int))), .int (zI (6))]) (rest := []) (host := RX6) (by decide) sm_X6_isOneOf co_X6_isOneOf dX4_read_52 (c_X6_isOneOf (d + 1) (((rdS K P k).1 : Nat) : Int) 6 (by omega) (by omega)) rfl rfl (Nat.le_of_ble_eq_true rfl) ?_
          refine EV.ifeqB (t := 94) dX4_read_55 (by decide) (fun c55 => ?_) (fun c55 => ?_)
          · skip
            have c55r := of_nrg c55
            omega
          · skip
            have c55r := of_rg c55
            refine EV.aload_n (i := 0) dX4_read_58 rfl rfl ?_
            refine EV.getf fl_X4_9 dX4_read_59 g20 rfl ?_
            refine EV.aload_n (i := 0) dX4_read_62 rfl rfl ?_
            refine EV.getf fl_X4_18 dX4_read_63 g20 rfl ?_
            refine EV.iload_n (i := 3) dX4_read_66 rfl rfl ?_
            refine EV.bipush dX4_read_67 (by decide) ?_
            refine EV.isub dX4_read_69 ?_
            refine EV.iast dX4_read_70 g21 ((rdS K P k).1) (rfl) (by omega) ?_
            refine EV.hps (h' := HP G h A N (K, (F, ((rdS K P k).1, (uI (rdS K P k).2.1 (rdS K P k).1 (K.2 k - 97)), (rdS K P k).2.2), T, V), O, im, IL) X) (wPd hA _) ?_
            have g12 : (HP G h A N (K, (F, ((rdS K P k).1, (uI (rdS K P k).2.1 (rdS K P k).1 (K.2 k - 97)), (rdS K P k).2.2), T, V), O, im, IL) X) (A 12) = some (obj 3 [.ref (A 13), .int (zI ((K.1 : Int)))]) := hGet hA _ _ 12 (by decide)
            have g13 : (HP G h A N (K, (F, ((rdS K P k).1, (uI (rdS K P k).2.1 (rdS K P k).1 (K.2 k - 97)), (rdS K P k).2.2), T, V), O, im, IL) X) (A 13) = some (arI G 60 K.2) := hGet hA _ _ 13 (by decide)
            have g20 : (HP G h A N (K, (F, ((rdS K P k).1, (uI (rdS K P k).2.1 (rdS K P k).1 (K.2 k - 97)), (rdS K P k).2.2), T, V), O, im, IL) X) (A 20) = some (obj 4 [.int (zI ((((rdS K P k).1 : Nat) : Int))), .ref (A 21), .ref (A 22)]) := hGet hA _ _ 20 (by decide)
            have g21 : (HP G h A N (K, (F, ((rdS K P k).1, (uI (rdS K P k).2.1 (rdS K P k).1 (K.2 k - 97)), (rdS K P k).2.2), T, V), O, im, IL) X) (A 21) = some (arI G 6 (uI (rdS K P k).2.1 (rdS K P k).1 (K.2 k - 97))) := hGet hA _ _ 21 (by decide)
            have g22 : (HP G h A N (K, (F, ((rdS K P k).1, (uI (rdS K P k).2.1 (rdS K P k).1 (K.2 k - 97)), (rdS K P k).2.2), T, V), O, im, IL) X) (A 22) = some (arI G 6 (nf ((rdS K P k).2.2))) := hGet hA _ _ 22 (by decide)
            refine EV.aload_n (i := 0) dX4_read_71 rfl rfl ?_
            refine EV.getf fl_X4_15 dX4_read_72 g20 rfl ?_
            refine EV.aload_n (i := 0) dX4_read_75 rfl rfl ?_
            refine EV.getf fl_X4_18 dX4_read_76 g20 rfl ?_
            refine EV.iconst dX4_read_79 ?_
            refine EV.iast dX4_read_80 g22 ((rdS K P k).1) (rfl) (by omega) ?_
            refine EV.hps (h' := HP G h A N (K, (F, ((rdS K P k).1, (uI (rdS K P k).2.1 (rdS K P k).1 (K.2 k - 97)), (uN (rdS K P k).2.2 (rdS K P k).1 0)), T, V), O, im, IL) X) (by rw [nf_u0]; exact wPw hA _) ?_
            have g12 : (HP G h A N (K, (F, ((rdS K P k).1, (uI (rdS K P k).2.1 (rdS K P k).1 (K.2 k - 97)), (uN (rdS K P k).2.2 (rdS K P k).1 0)), T, V), O, im, IL) X) (A 12) = some (obj 3 [.ref (A 13), .int (zI ((K.1 : Int)))]) := hGet hA _ _ 12 (by decide)
            have g13 : (HP G h A N (K, (F, ((rdS K P k).1, (uI (rdS K P k).2.1 (rdS K P k).1 (K.2 k - 97)), (uN (rdS K P k).2.2 (rdS K P k).1 0)), T, V), O, im, IL) X) (A 13) = some (arI G 60 K.2) := hGet hA _ _ 13 (by decide)
            have g20 : (HP G h A N (K, (F, ((rdS K P k).1, (uI (rdS K P k).2.1 (rdS K P k).1 (K.2 k - 97)), (uN (rdS K P k).2.2 (rdS K P k).1 0)), T, V), O, im, IL) X) (A 20) = some (obj 4 [.int (zI ((((rdS K P k).1 : Nat) : Int))), .ref (A 21), .ref (A 22)]) := hGet hA _ _ 20 (by decide)
            have g21 : (HP G h A N (K, (F, ((rdS K P k).1, (uI (rdS K P k).2.1 (rdS K P k).1 (K.2 k - 97)), (uN (rdS K P k).2.2 (rdS K P k).1 0)), T, V), O, im, IL) X) (A 21) = some (arI G 6 (uI (rdS K P k).2.1 (rdS K P k).1 (K.2 k - 97))) := hGet hA _ _ 21 (by decide)
            have g22 : (HP G h A N (K, (F, ((rdS K P k).1, (uI (rdS K P k).2.1 (rdS K P k).1 (K.2 k - 97)), (uN (rdS K P k).2.2 (rdS K P k).1 0)), T, V), O, im, IL) X) (A 22) = some (arI G 6 (nf (uN (rdS K P k).2.2 (rdS K P k).1 0))) := hGet hA _ _ 22 (by decide)
            refine EV.aload_n (i := 0) dX4_read_81 rfl rfl ?_
            refine EV.dup dX4_read_82 rfl ?_
            refine EV.getf fl_X4_18 dX4_read_83 g20 rfl ?_
            refine EV.iconst dX4_read_86 ?_
            refine EV.iadd dX4_read_87 ?_
            refine EV.putf (fs' := [.int (zI (((((rdS K P k).1 : Nat) : Int) + 1))), .ref (A 21), .ref (A 22)]) fp_X4_18 dX4_read_88 g20 (Nat.le_of_ble_eq_true rfl) rfl rfl rfl ?_
            refine EV.hps (h' := HP G h A N (K, (F, (((rdS K P k).1 + 1), (uI (rdS K P k).2.1 (rdS K P k).1 (K.2 k - 97)), (uN (rdS K P k).2.2 (rdS K P k).1 0)), T, V), O, im, IL) X) (wP1 hA ((rdS K P k).1 + 1)) ?_
            have g12 : (HP G h A N (K, (F, (((rdS K P k).1 + 1), (uI (rdS K P k).2.1 (rdS K P k).1 (K.2 k - 97)), (uN (rdS K P k).2.2 (rdS K P k).1 0)), T, V), O, im, IL) X) (A 12) = some (obj 3 [.ref (A 13), .int (zI ((K.1 : Int)))]) := hGet hA _ _ 12 (by decide)
            have g13 : (HP G h A N (K, (F, (((rdS K P k).1 + 1), (uI (rdS K P k).2.1 (rdS K P k).1 (K.2 k - 97)), (uN (rdS K P k).2.2 (rdS K P k).1 0)), T, V), O, im, IL) X) (A 13) = some (arI G 60 K.2) := hGet hA _ _ 13 (by decide)
            have g20 : (HP G h A N (K, (F, (((rdS K P k).1 + 1), (uI (rdS K P k).2.1 (rdS K P k).1 (K.2 k - 97)), (uN (rdS K P k).2.2 (rdS K P k).1 0)), T, V), O, im, IL) X) (A 20) = some (obj 4 [.int (zI (((((rdS K P k).1 + 1) : Nat) : Int))), .ref (A 21), .ref (A 22)]) := hGet hA _ _ 20 (by decide)
            have g21 : (HP G h A N (K, (F, (((rdS K P k).1 + 1), (uI (rdS K P k).2.1 (rdS K P k).1 (K.2 k - 97)), (uN (rdS K P k).2.2 (rdS K P k).1 0)), T, V), O, im, IL) X) (A 21) = some (arI G 6 (uI (rdS K P k).2.1 (rdS K P k).1 (K.2 k - 97))) := hGet hA _ _ 21 (by decide)
            have g22 : (HP G h A N (K, (F, (((rdS K P k).1 + 1), (uI (rdS K P k).2.1 (rdS K P k).1 (K.2 k - 97)), (uN (rdS K P k).2.2 (rdS K P k).1 0)), T, V), O, im, IL) X) (A 22) = some (arI G 6 (nf (uN (rdS K P k).2.2 (rdS K P k).1 0))) := hGet hA _ _ 22 (by decide)
            refine EV.goto (t := 132) dX4_read_91 (by decide) ?_
            refine EV.iinc (i := 2) (lv' := [some (.ref (A 20)), some (.ref (A 12)), some (.int (zI ((k : Int) + 1))), some (.int (zI (K.2 k))), some (.int (zI (((((rdS K P k).1 : Nat) : Int) - 1))))]) dX4_read_132 rfl (by decide) rfl ?_
            refine EV.goto (t := 12) dX4_read_135 (by decide) ?_
            refine EV.drop 3 (lv' := [some (.ref (A 20)), some (.ref (A 12)), some (.int (zI (((k : Int) + 1)))), none, some (.int (zI (((((rdS K P k).1 : Nat) : Int) - 1))))]) rfl ?_
            refine EV.drop 4 (lv' := [some (.ref (A 20)), some (.ref (A 12)), some (.int (zI (((k : Int) + 1)))), none, none]) rfl ?_
            exact ih12 (k + 1) w2 s2 _ _ (by omega) (RI_s hR hp2) (hx2) (by omega) (rfl) (by rw [rdS_a (by omega)])
  exact L12 _ 0 0 (-2) _ _ (by omega) (RI_0 K P) (hpf) (Nat.lt_succ_self _) (rfl) (rfl)
end
