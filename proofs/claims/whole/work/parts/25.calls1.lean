section
variable {G : GG} {l : Launch}
variable {h : Hp} {A : Nat → Nat} {N : Nat} {K : PD} {F : FK} {P : PL} {T : ST} {V : Nat → Int} {O : MO} {im : Nat → Option Nat} {IL : Nat → LQ} {X : MX}
set_option maxHeartbeats 4000000 in
set_option maxRecDepth 20000 in
theorem c_X6_isThere (d : Nat) (hA : inA A N) (hK : WFK K) (hW : WF F) (hP : WFP P) (hT : WFT T) (z : Int) (hz : inR z) : CT G l mX6_isThere (d + 3) 0 0 [.ref (A 11), .int (zI (z))] (HP G h A N (K, (F, P, T, V), O, im, IL) X) (RQ (HP G h A N (K, (F, P, T, V), O, im, IL) X) (bI (thI F z))) := by
  refine CT.of (by decide) (Nat.le_of_ble_eq_true rfl) (List.forall_mem_cons.mpr ⟨rfl, List.forall_mem_cons.mpr ⟨rfl, fun _ h => absurd h List.not_mem_nil⟩⟩) ?_
  refine EV.lvs (lv' := [some (.ref (A 11)), some (.int (zI (z)))]) rfl ?_
  have g11 : (HP G h A N (K, (F, P, T, V), O, im, IL) X) (A 11) = some (obj 6 [.ref (A 12), .ref (A 14), .ref (A 26), .ref (A 27)]) := hGet hA _ _ 11 (by decide)
  have g14 : (HP G h A N (K, (F, P, T, V), O, im, IL) X) (A 14) = some (obj 1 [.ref (A 15), .ref (A 20), .ref (A 23)]) := hGet hA _ _ 14 (by decide)
  have g15 : (HP G h A N (K, (F, P, T, V), O, im, IL) X) (A 15) = some (obj 0 [.int (zI ((F.1 : Int))), .ref (A 16), .ref (A 17), .ref (A 18), .ref (A 19)]) := hGet hA _ _ 15 (by decide)
  have hK6 := hK.1
  have hP6 := hP.1
  have hT6 := hT.1
  have hth := hW.1
  have hF : FolkAt G (HP G h A N (K, (F, P, T, V), O, im, IL) X) F (A 15) (A 16) (A 17) (A 18) (A 19) V := hFolk hA
  refine EV.aload_n (i := 0) dX6_isThere_0 rfl rfl ?_
  refine EV.getf fl_X6_19 dX6_isThere_1 g11 rfl ?_
  refine EV.getf fl_X6_56 dX6_isThere_4 g14 rfl ?_
  refine EV.iload_n (i := 1) dX6_isThere_7 rfl rfl ?_
  refine EV.callVr (M' := mX0_isThere) (as := [.int (zI (z))]) (rest := []) ml_X6_232 im_X0_isThere se_X0_isThere rfl co_X0_isThere dX6_isThere_8 g15 (c_X0_isThere (d + 0) hF hW z (by omega)) rfl rfl (Nat.le_of_ble_eq_true rfl) ?_
  refine EV.zret rfl (nar_bI _) dX6_isThere_11 ?_
  exact rQ rfl
set_option maxHeartbeats 4000000 in
set_option maxRecDepth 20000 in
theorem c_X6_areTwoThere (d : Nat) (hA : inA A N) (hK : WFK K) (hW : WF F) (hP : WFP P) (hT : WFT T) (z y : Int) (hz : inR z) (hy : inR y) : CT G l mX6_areTwoThere (d + 4) 0 0 [.ref (A 11), .int (zI (z)), .int (zI (y))] (HP G h A N (K, (F, P, T, V), O, im, IL) X) (RQ (HP G h A N (K, (F, P, T, V), O, im, IL) X) (bI (twI F z y))) := by
  refine CT.of (by decide) (Nat.le_of_ble_eq_true rfl) (List.forall_mem_cons.mpr ⟨rfl, List.forall_mem_cons.mpr ⟨rfl, List.forall_mem_cons.mpr ⟨rfl, fun _ h => absurd h List.not_mem_nil⟩⟩⟩) ?_
  refine EV.lvs (lv' := [some (.ref (A 11)), some (.int (zI (z))), some (.int (zI (y)))]) rfl ?_
  have g11 : (HP G h A N (K, (F, P, T, V), O, im, IL) X) (A 11) = some (obj 6 [.ref (A 12), .ref (A 14), .ref (A 26), .ref (A 27)]) := hGet hA _ _ 11 (by decide)
  have hK6 := hK.1
  have hP6 := hP.1
  have hT6 := hT.1
  have hth := hW.1
  have hF : FolkAt G (HP G h A N (K, (F, P, T, V), O, im, IL) X) F (A 15) (A 16) (A 17) (A 18) (A 19) V := hFolk hA
  refine EV.iload_n (i := 1) dX6_areTwoThere_0 rfl rfl ?_
  refine EV.iload_n (i := 2) dX6_areTwoThere_1 rfl rfl ?_
  refine EV.icmp_eq (t := 25) dX6_areTwoThere_2 (by decide) (by omega) (fun c2 => ?_) (fun c2 => ?_)
  · skip
    refine EV.iconst dX6_areTwoThere_25 ?_
    refine EV.zret rfl (by decide) dX6_areTwoThere_26 ?_
    exact rQ (by simp [twI, bI, c2])
  · skip
    refine EV.aload_n (i := 0) dX6_areTwoThere_5 rfl rfl ?_
    refine EV.iload_n (i := 1) dX6_areTwoThere_6 rfl rfl ?_
    refine EV.callVr (M' := mX6_isThere) (as := [.int (zI (z))]) (rest := []) ml_X6_69 im_X6_isThere se_X6_isThere rfl co_X6_isThere dX6_areTwoThere_7 g11 (c_X6_isThere (d + 0) hA hK hW hP hT z (by omega)) rfl rfl (Nat.le_of_ble_eq_true rfl) ?_
    refine EV.ifeqB (t := 25) dX6_areTwoThere_10 (by decide) (fun c10 => ?_) (fun c10 => ?_)
    · skip
      refine EV.iconst dX6_areTwoThere_25 ?_
      refine EV.zret rfl (by decide) dX6_areTwoThere_26 ?_
      exact rQ (by simp [twI, bI, c2, c10])
    · skip
      refine EV.aload_n (i := 0) dX6_areTwoThere_13 rfl rfl ?_
      refine EV.iload_n (i := 2) dX6_areTwoThere_14 rfl rfl ?_
      refine EV.callVr (M' := mX6_isThere) (as := [.int (zI (y))]) (rest := []) ml_X6_69 im_X6_isThere se_X6_isThere rfl co_X6_isThere dX6_areTwoThere_15 g11 (c_X6_isThere (d + 0) hA hK hW hP hT y (by omega)) rfl rfl (Nat.le_of_ble_eq_true rfl) ?_
      refine EV.ifeqB (t := 25) dX6_areTwoThere_18 (by decide) (fun c18 => ?_) (fun c18 => ?_)
      · skip
        refine EV.iconst dX6_areTwoThere_25 ?_
        refine EV.zret rfl (by decide) dX6_areTwoThere_26 ?_
        exact rQ (by simp [twI, bI, c2, c10, c18])
      · skip
        refine EV.iconst dX6_areTwoThere_21 ?_
        refine EV.goto (t := 26) dX6_areTwoThere_22 (by decide) ?_
        refine EV.zret rfl (by decide) dX6_areTwoThere_26 ?_
        exact rQ (by simp [twI, bI, c2, c10, c18])
set_option maxHeartbeats 4000000 in
set_option maxRecDepth 20000 in
theorem c_X6_isSetOfThere (d : Nat) (hA : inA A N) (hK : WFK K) (hW : WF F) (hP : WFP P) (hT : WFT T) (z : Int) (hz : inR z) : CT G l mX6_isSetOfThere (d + 1) 0 0 [.ref (A 11), .int (zI (z))] (HP G h A N (K, (F, P, T, V), O, im, IL) X) (RQ (HP G h A N (K, (F, P, T, V), O, im, IL) X) (bI (setB F z))) := by
  refine CT.of (by decide) (Nat.le_of_ble_eq_true rfl) (List.forall_mem_cons.mpr ⟨rfl, List.forall_mem_cons.mpr ⟨rfl, fun _ h => absurd h List.not_mem_nil⟩⟩) ?_
  refine EV.lvs (lv' := [some (.ref (A 11)), some (.int (zI (z)))]) rfl ?_
  have g11 : (HP G h A N (K, (F, P, T, V), O, im, IL) X) (A 11) = some (obj 6 [.ref (A 12), .ref (A 14), .ref (A 26), .ref (A 27)]) := hGet hA _ _ 11 (by decide)
  have g14 : (HP G h A N (K, (F, P, T, V), O, im, IL) X) (A 14) = some (obj 1 [.ref (A 15), .ref (A 20), .ref (A 23)]) := hGet hA _ _ 14 (by decide)
  have g15 : (HP G h A N (K, (F, P, T, V), O, im, IL) X) (A 15) = some (obj 0 [.int (zI ((F.1 : Int))), .ref (A 16), .ref (A 17), .ref (A 18), .ref (A 19)]) := hGet hA _ _ 15 (by decide)
  have hK6 := hK.1
  have hP6 := hP.1
  have hT6 := hT.1
  have hth := hW.1
  have hF : FolkAt G (HP G h A N (K, (F, P, T, V), O, im, IL) X) F (A 15) (A 16) (A 17) (A 18) (A 19) V := hFolk hA
  refine EV.iload_n (i := 1) dX6_isSetOfThere_0 rfl rfl ?_
  refine EV.ifeq (t := 25) dX6_isSetOfThere_1 (by decide) (by omega) (fun c1 => ?_) (fun c1 => ?_)
  · skip
    subst c1
    refine EV.iconst dX6_isSetOfThere_25 ?_
    refine EV.zret rfl (by decide) dX6_isSetOfThere_26 ?_
    exact rQ (bI_f (setB_f1 (by omega)))
  · skip
    refine EV.iload_n (i := 1) dX6_isSetOfThere_4 rfl rfl ?_
    refine EV.aload_n (i := 0) dX6_isSetOfThere_5 rfl rfl ?_
    refine EV.getf fl_X6_19 dX6_isSetOfThere_6 g11 rfl ?_
    refine EV.getf fl_X6_56 dX6_isSetOfThere_9 g14 rfl ?_
    refine EV.getf fl_X6_72 dX6_isSetOfThere_12 g15 rfl ?_
    refine EV.iconst dX6_isSetOfThere_15 ?_
    refine EV.ixorW dX6_isSetOfThere_16 ?_
    refine EV.iandW dX6_isSetOfThere_17 ?_
    refine EV.ifneW (t := 25) dX6_isSetOfThere_18 (by decide) (fun c18 => ?_) (fun c18 => ?_)
    · skip
      refine EV.iconst dX6_isSetOfThere_25 ?_
      refine EV.zret rfl (by decide) dX6_isSetOfThere_26 ?_
      exact rQ (bI_f (setB_w1 hz hth c18))
    · skip
      refine EV.iconst dX6_isSetOfThere_21 ?_
      refine EV.goto (t := 26) dX6_isSetOfThere_22 (by decide) ?_
      refine EV.zret rfl (by decide) dX6_isSetOfThere_26 ?_
      exact rQ (bI_t (setB_w2 hz hth c1 c18))
set_option maxHeartbeats 4000000 in
set_option maxRecDepth 20000 in
theorem c_X6_wipe (d : Nat) (hA : inA A N) (hK : WFK K) (hW : WF F) (hP : WFP P) (hT : WFT T)  : CT G l mX6_wipe (d + 1) 0 0 [.ref (A 11)] (HP G h A N (K, (F, P, T, V), O, im, IL) X) (fun o h' => o = some (.int (zI (K.1 : Int))) ∧ h' = HP G h A N ((0, K.2), (F, P, T, V), O, im, IL) X) := by
  refine CT.of (by decide) (Nat.le_of_ble_eq_true rfl) (List.forall_mem_cons.mpr ⟨rfl, fun _ h => absurd h List.not_mem_nil⟩) ?_
  refine EV.lvs (lv' := [some (.ref (A 11)), none]) rfl ?_
  have g11 : (HP G h A N (K, (F, P, T, V), O, im, IL) X) (A 11) = some (obj 6 [.ref (A 12), .ref (A 14), .ref (A 26), .ref (A 27)]) := hGet hA _ _ 11 (by decide)
  have g12 : (HP G h A N (K, (F, P, T, V), O, im, IL) X) (A 12) = some (obj 3 [.ref (A 13), .int (zI ((K.1 : Int)))]) := hGet hA _ _ 12 (by decide)
  have hK6 := hK.1
  have hP6 := hP.1
  have hT6 := hT.1
  have hth := hW.1
  have hF : FolkAt G (HP G h A N (K, (F, P, T, V), O, im, IL) X) F (A 15) (A 16) (A 17) (A 18) (A 19) V := hFolk hA
  refine EV.aload_n (i := 0) dX6_wipe_0 rfl rfl ?_
  refine EV.getf fl_X6_10 dX6_wipe_1 g11 rfl ?_
  refine EV.getf fl_X6_38 dX6_wipe_4 g12 rfl ?_
  refine EV.istore_n (i := 1) (lv' := [some (.ref (A 11)), some (.int (zI ((K.1 : Int))))]) dX6_wipe_7 rfl (by decide) rfl ?_
  refine EV.aload_n (i := 0) dX6_wipe_8 rfl rfl ?_
  refine EV.getf fl_X6_10 dX6_wipe_9 g11 rfl ?_
  refine EV.iconst dX6_wipe_12 ?_
  refine EV.putf (fs' := [.ref (A 13), .int (zI (0))]) fp_X6_38 dX6_wipe_13 g12 (Nat.le_of_ble_eq_true rfl) rfl rfl rfl ?_
  refine EV.hps (h' := HP G h A N ((0, K.2), (F, P, T, V), O, im, IL) X) (wK1 hA 0) ?_
  have g11 : (HP G h A N ((0, K.2), (F, P, T, V), O, im, IL) X) (A 11) = some (obj 6 [.ref (A 12), .ref (A 14), .ref (A 26), .ref (A 27)]) := hGet hA _ _ 11 (by decide)
  have g12 : (HP G h A N ((0, K.2), (F, P, T, V), O, im, IL) X) (A 12) = some (obj 3 [.ref (A 13), .int (zI ((0 : Int)))]) := hGet hA _ _ 12 (by decide)
  refine EV.iload_n (i := 1) dX6_wipe_16 rfl rfl ?_
  refine EV.iret rfl dX6_wipe_17 ?_
  exact ⟨rfl, rfl⟩
set_option maxHeartbeats 4000000 in
set_option maxRecDepth 20000 in
theorem c_X6_say (d : Nat) (hA : inA A N) (hK : WFK K) (hW : WF F) (hP : WFP P) (hT : WFT T) (z : Int) (hz : inR z) : CT G l mX6_say (d + 3) 0 0 [.ref (A 11), .int (zI (z))] (HP G h A N (K, (F, P, T, V), O, im, IL) X) (fun o h' => o = some (.int (zI (sayR K z))) ∧ h' = HP G h A N (sayK K z, (F, P, T, V), O, im, IL) X) := by
  refine CT.of (by decide) (Nat.le_of_ble_eq_true rfl) (List.forall_mem_cons.mpr ⟨rfl, List.forall_mem_cons.mpr ⟨rfl, fun _ h => absurd h List.not_mem_nil⟩⟩) ?_
  refine EV.lvs (lv' := [some (.ref (A 11)), some (.int (zI (z)))]) rfl ?_
  have g11 : (HP G h A N (K, (F, P, T, V), O, im, IL) X) (A 11) = some (obj 6 [.ref (A 12), .ref (A 14), .ref (A 26), .ref (A 27)]) := hGet hA _ _ 11 (by decide)
  have g12 : (HP G h A N (K, (F, P, T, V), O, im, IL) X) (A 12) = some (obj 3 [.ref (A 13), .int (zI ((K.1 : Int)))]) := hGet hA _ _ 12 (by decide)
  have hK6 := hK.1
  have hP6 := hP.1
  have hT6 := hT.1
  have hth := hW.1
  have hF : FolkAt G (HP G h A N (K, (F, P, T, V), O, im, IL) X) F (A 15) (A 16) (A 17) (A 18) (A 19) V := hFolk hA
  refine EV.iload_n (i := 1) dX6_say_0 rfl rfl ?_
  refine EV.bipush dX6_say_1 (by decide) ?_
  refine EV.icmp_lt (t := 12) dX6_say_3 (by decide) (by omega) (fun c3 => ?_) (fun c3 => ?_)
  · skip
    refine EV.bipush dX6_say_12 (by decide) ?_
    refine EV.iret rfl dX6_say_14 ?_
    exact ⟨by rw [sayR, rg_f (by omega)]; rfl, by rw [sayK, rg_f (by omega)]; rfl⟩
  · skip
    refine EV.iload_n (i := 1) dX6_say_6 rfl rfl ?_
    refine EV.bipush dX6_say_7 (by decide) ?_
    refine EV.icmp_le (t := 15) dX6_say_9 (by decide) (by omega) (fun c9 => ?_) (fun c9 => ?_)
    · skip
      refine EV.aload_n (i := 0) dX6_say_15 rfl rfl ?_
      refine EV.getf fl_X6_10 dX6_say_16 g11 rfl ?_
      refine EV.iload_n (i := 1) dX6_say_19 rfl rfl ?_
      refine EV.callV (M' := mX3_add) (as := [.int (zI (z))]) (rest := []) ml_X6_34 im_X3_add se_X3_add rfl co_X3_add dX6_say_20 g12 (c_X3_add (d + 0) hA z (by omega)) rfl rfl (Nat.le_of_ble_eq_true rfl) (Nat.le_of_ble_eq_true rfl) (Nat.le_of_ble_eq_true rfl) (fun v20 h20 q20 => ?_)
      rcases q20 with ⟨h60, rfl, rfl⟩ | ⟨h60, rfl, rfl⟩
      · skip
        have g11 : (HP G h A N (((K.1 + 1), (uI K.2 K.1 z)), (F, P, T, V), O, im, IL) X) (A 11) = some (obj 6 [.ref (A 12), .ref (A 14), .ref (A 26), .ref (A 27)]) := hGet hA _ _ 11 (by decide)
        have g12 : (HP G h A N (((K.1 + 1), (uI K.2 K.1 z)), (F, P, T, V), O, im, IL) X) (A 12) = some (obj 3 [.ref (A 13), .int (zI (((K.1 + 1 : Nat) : Int)))]) := hGet hA _ _ 12 (by decide)
        refine EV.sts (st' := [.int (zI (1))]) rfl ?_
        refine EV.ifeq (t := 36) dX6_say_23 (by decide) (by omega) (fun c23 => ?_) (fun c23 => ?_)
        · skip
          omega
        · skip
          refine EV.aload_n (i := 0) dX6_say_26 rfl rfl ?_
          refine EV.getf fl_X6_10 dX6_say_27 g11 rfl ?_
          refine EV.getf fl_X6_38 dX6_say_30 g12 rfl ?_
          refine EV.goto (t := 38) dX6_say_33 (by decide) ?_
          refine EV.iret rfl dX6_say_38 ?_
          exact ⟨by rw [sayR, rg_t (by omega), if_pos rfl, if_pos h60]; rfl, by rw [sayK, rg_t (by omega), if_pos rfl, if_pos h60]; rfl⟩
      · skip
        have g11 : (HP G h A N (K, (F, P, T, V), O, im, IL) X) (A 11) = some (obj 6 [.ref (A 12), .ref (A 14), .ref (A 26), .ref (A 27)]) := hGet hA _ _ 11 (by decide)
        have g12 : (HP G h A N (K, (F, P, T, V), O, im, IL) X) (A 12) = some (obj 3 [.ref (A 13), .int (zI ((K.1 : Int)))]) := hGet hA _ _ 12 (by decide)
        refine EV.sts (st' := [.int (zI (0))]) rfl ?_
        refine EV.ifeq (t := 36) dX6_say_23 (by decide) (by omega) (fun c23 => ?_) (fun c23 => ?_)
        · skip
          refine EV.bipush dX6_say_36 (by decide) ?_
          refine EV.iret rfl dX6_say_38 ?_
          exact ⟨by rw [sayR, rg_t (by omega), if_pos rfl, if_neg (by omega)], by rw [sayK, rg_t (by omega), if_pos rfl, if_neg (by omega)]⟩
        · skip
          omega
    · skip
      refine EV.bipush dX6_say_12 (by decide) ?_
      refine EV.iret rfl dX6_say_14 ?_
      exact ⟨by rw [sayR, rg_f (by omega)]; rfl, by rw [sayK, rg_f (by omega)]; rfl⟩
set_option maxHeartbeats 4000000 in
set_option maxRecDepth 20000 in
theorem c_X6_fault (d : Nat) (hA : inA A N) (hK : WFK K) (hW : WF F) (hP : WFP P) (hT : WFT T) (z : Int) (hz : inR z) : CT G l mX6_fault (d + 4) 0 0 [.ref (A 11), .int (zI (z))] (HP G h A N (K, (F, P, T, V), O, im, IL) X) (RQ (HP G h A N (K, (F, P, T, V), O, im, IL) X) (faultR K z)) := by
  refine CT.of (by decide) (Nat.le_of_ble_eq_true rfl) (List.forall_mem_cons.mpr ⟨rfl, List.forall_mem_cons.mpr ⟨rfl, fun _ h => absurd h List.not_mem_nil⟩⟩) ?_
  refine EV.lvs (lv' := [some (.ref (A 11)), some (.int (zI (z)))]) rfl ?_
  have g11 : (HP G h A N (K, (F, P, T, V), O, im, IL) X) (A 11) = some (obj 6 [.ref (A 12), .ref (A 14), .ref (A 26), .ref (A 27)]) := hGet hA _ _ 11 (by decide)
  have g12 : (HP G h A N (K, (F, P, T, V), O, im, IL) X) (A 12) = some (obj 3 [.ref (A 13), .int (zI ((K.1 : Int)))]) := hGet hA _ _ 12 (by decide)
  have hK6 := hK.1
  have hP6 := hP.1
  have hT6 := hT.1
  have hth := hW.1
  have hF : FolkAt G (HP G h A N (K, (F, P, T, V), O, im, IL) X) F (A 15) (A 16) (A 17) (A 18) (A 19) V := hFolk hA
  refine EV.iload_n (i := 1) dX6_fault_0 rfl rfl ?_
  refine EV.iconst dX6_fault_1 ?_
  refine EV.callSr (M' := mX6_isOneOf) (as := [.int (zI (z)), .int (zI (2))]) (rest := []) ml_X6_42 sm_X6_isOneOf co_X6_isOneOf dX6_fault_2 (c_X6_isOneOfL (d + 2) z 2 1 rfl (by omega) (by omega)) rfl rfl (Nat.le_of_ble_eq_true rfl) ?_
  refine EV.ifneB (t := 11) dX6_fault_5 (by decide) (fun c5 => ?_) (fun c5 => ?_)
  · skip
    have c5r := of_rg c5
    refine EV.iload_n (i := 1) dX6_fault_11 rfl rfl ?_
    refine EV.ifne (t := 25) dX6_fault_12 (by decide) (by omega) (fun c12 => ?_) (fun c12 => ?_)
    · skip
      refine EV.aload_n (i := 0) dX6_fault_25 rfl rfl ?_
      refine EV.getf fl_X6_10 dX6_fault_26 g11 rfl ?_
      refine EV.callVr (M' := mX3_planFault) (as := []) (rest := []) ml_X6_50 im_X3_planFault se_X3_planFault rfl co_X3_planFault dX6_fault_29 g12 (c_X3_planFault (d + 0) hA hK ) rfl rfl (Nat.le_of_ble_eq_true rfl) ?_
      have hpfi := pfK_in K
      refine EV.iret rfl dX6_fault_32 ?_
      exact rQ (by rw [faultR, if_neg (by omega), if_pos (by omega)])
    · skip
      refine EV.aload_n (i := 0) dX6_fault_15 rfl rfl ?_
      refine EV.getf fl_X6_10 dX6_fault_16 g11 rfl ?_
      refine EV.callVr (M' := mX3_orderFault) (as := []) (rest := []) ml_X6_46 im_X3_orderFault se_X3_orderFault rfl co_X3_orderFault dX6_fault_19 g12 (c_X3_orderFault (d + 0) hA hK ) rfl rfl (Nat.le_of_ble_eq_true rfl) ?_
      have hofi := ofK_in K
      refine EV.goto (t := 32) dX6_fault_22 (by decide) ?_
      refine EV.iret rfl dX6_fault_32 ?_
      exact rQ (by rw [faultR, if_pos (by omega)])
  · skip
    have c5r := of_nrg c5
    refine EV.bipush dX6_fault_8 (by decide) ?_
    refine EV.iret rfl dX6_fault_10 ?_
    exact rQ (by rw [faultR, if_neg (by omega), if_neg (by omega)])
set_option maxHeartbeats 4000000 in
set_option maxRecDepth 20000 in
theorem c_X6_born (d : Nat) (hA : inA A N) (hK : WFK K) (hW : WF F) (hP : WFP P) (hT : WFT T) (z b : Int) (hz : inR z) (hb : inR b) : CT G l mX6_born (d + 4) 0 0 [.ref (A 11), .int (zI (z)), .int (zI (b))] (HP G h A N (K, (F, P, T, V), O, im, IL) X) (fun o h' => o = some (.int (zI (bornR K z b))) ∧ h' = HP G h A N (if bornD K z b then (0, K.2) else K, (if bornD K z b then bornF F z.toNat b K else F, P, T, V), O, im, IL) X) := by
  refine CT.of (by decide) (Nat.le_of_ble_eq_true rfl) (List.forall_mem_cons.mpr ⟨rfl, List.forall_mem_cons.mpr ⟨rfl, List.forall_mem_cons.mpr ⟨rfl, fun _ h => absurd h List.not_mem_nil⟩⟩⟩) ?_
  refine EV.lvs (lv' := [some (.ref (A 11)), some (.int (zI (z))), some (.int (zI (b)))]) rfl ?_
  have g11 : (HP G h A N (K, (F, P, T, V), O, im, IL) X) (A 11) = some (obj 6 [.ref (A 12), .ref (A 14), .ref (A 26), .ref (A 27)]) := hGet hA _ _ 11 (by decide)
  have g12 : (HP G h A N (K, (F, P, T, V), O, im, IL) X) (A 12) = some (obj 3 [.ref (A 13), .int (zI ((K.1 : Int)))]) := hGet hA _ _ 12 (by decide)
  have g14 : (HP G h A N (K, (F, P, T, V), O, im, IL) X) (A 14) = some (obj 1 [.ref (A 15), .ref (A 20), .ref (A 23)]) := hGet hA _ _ 14 (by decide)
  have g15 : (HP G h A N (K, (F, P, T, V), O, im, IL) X) (A 15) = some (obj 0 [.int (zI ((F.1 : Int))), .ref (A 16), .ref (A 17), .ref (A 18), .ref (A 19)]) := hGet hA _ _ 15 (by decide)
  have hK6 := hK.1
  have hP6 := hP.1
  have hT6 := hT.1
  have hth := hW.1
  have hF : FolkAt G (HP G h A N (K, (F, P, T, V), O, im, IL) X) F (A 15) (A 16) (A 17) (A 18) (A 19) V := hFolk hA
  refine EV.iload_n (i := 1) dX6_born_0 rfl rfl ?_
  refine EV.bipush dX6_born_1 (by decide) ?_
  refine EV.callSr (M' := mX6_isOneOf) (as := [.int (zI (z)), .int (zI (6))]) (rest := []) ml_X6_42 sm_X6_isOneOf co_X6_isOneOf dX6_born_3 (c_X6_isOneOfL (d + 2) z 6 5 rfl (by omega) (by omega)) rfl rfl (Nat.le_of_ble_eq_true rfl) ?_
  refine EV.ifneB (t := 11) dX6_born_6 (by decide) (fun c6 => ?_) (fun c6 => ?_)
  · skip
    have c6r := of_rg c6
    obtain ⟨p, rfl⟩ : ∃ p : Nat, z = (p : Int) := ⟨z.toNat, by omega⟩
    refine EV.iload_n (i := 2) dX6_born_11 rfl rfl ?_
    refine EV.callSr (M' := mX6_isBirth) (as := [.int (zI (b))]) (rest := []) ml_X6_53 sm_X6_isBirth co_X6_isBirth dX6_born_12 (c_X6_isBirth (d + 2) b (by omega)) rfl rfl (Nat.le_of_ble_eq_true rfl) ?_
    refine EV.ifneB (t := 21) dX6_born_15 (by decide) (fun c15 => ?_) (fun c15 => ?_)
    · skip
      have c15r := of_rg c15
      refine EV.aload_n (i := 0) dX6_born_21 rfl rfl ?_
      refine EV.getf fl_X6_10 dX6_born_22 g11 rfl ?_
      refine EV.callVr (M' := mX3_orderFault) (as := []) (rest := []) ml_X6_46 im_X3_orderFault se_X3_orderFault rfl co_X3_orderFault dX6_born_25 g12 (c_X3_orderFault (d + 0) hA hK ) rfl rfl (Nat.le_of_ble_eq_true rfl) ?_
      have hofi := ofK_in K
      refine EV.bipush dX6_born_28 (by decide) ?_
      refine EV.icmp_eq (t := 36) dX6_born_30 (by decide) (by omega) (fun c30 => ?_) (fun c30 => ?_)
      · skip
        have hKo : ofK K = -6 := c30
        refine EV.aload_n (i := 0) dX6_born_36 rfl rfl ?_
        refine EV.getf fl_X6_19 dX6_born_37 g11 rfl ?_
        refine EV.getf fl_X6_56 dX6_born_40 g14 rfl ?_
        refine EV.iload_n (i := 1) dX6_born_43 rfl rfl ?_
        refine EV.iload_n (i := 2) dX6_born_44 rfl rfl ?_
        refine EV.aload_n (i := 0) dX6_born_45 rfl rfl ?_
        refine EV.getf fl_X6_10 dX6_born_46 g11 rfl ?_
        refine EV.callV (M' := mX0_settle) (as := [.int (zI ((p : Int))), .int (zI (b)), .ref (A 12)]) (rest := []) ml_X6_60 im_X0_settle se_X0_settle rfl co_X0_settle dX6_born_49 g15 (c_X0_settle (d + 0) hA hW p b (by omega) hKo) rfl rfl (Nat.le_of_ble_eq_true rfl) (Nat.le_of_ble_eq_true rfl) (Nat.le_of_ble_eq_true rfl) (fun v49 h49 q49 => ?_)
        obtain ⟨rfl, rfl⟩ := q49
        refine EV.sts (st' := []) rfl ?_
        have g11 : (HP G h A N (K, (bornF F p b K, P, T, V), O, im, IL) X) (A 11) = some (obj 6 [.ref (A 12), .ref (A 14), .ref (A 26), .ref (A 27)]) := hGet hA _ _ 11 (by decide)
        refine EV.aload_n (i := 0) dX6_born_52 rfl rfl ?_
        refine EV.callV (M' := mX6_wipe) (as := []) (rest := []) ml_X6_66 im_X6_wipe se_X6_wipe rfl co_X6_wipe dX6_born_53 g11 (c_X6_wipe (F := bornF F p b K) (d + 2) hA hK (bornF_W hW (by omega) (by omega) hKo) hP hT) rfl rfl (Nat.le_of_ble_eq_true rfl) (Nat.le_of_ble_eq_true rfl) (Nat.le_of_ble_eq_true rfl) (fun v53 h53 q53 => ?_)
        obtain ⟨rfl, rfl⟩ := q53
        refine EV.sts (st' := [.int (zI ((K.1 : Int)))]) rfl ?_
        refine EV.iret rfl dX6_born_56 ?_
        exact ⟨by simp [bornR, c6, c15, hKo], by simp [bornD, c6, c15, hKo]⟩
      · skip
        refine EV.bipush dX6_born_33 (by decide) ?_
        refine EV.iret rfl dX6_born_35 ?_
        exact ⟨by simp [bornR, c6, c15, c30], by simp [bornD, c6, c15, c30]⟩
    · skip
      have c15r := of_nrg c15
      refine EV.bipush dX6_born_18 (by decide) ?_
      refine EV.iret rfl dX6_born_20 ?_
      exact ⟨by simp [bornR, c6, c15], by simp [bornD, c6, c15]⟩
  · skip
    have c6r := of_nrg c6
    refine EV.iconst dX6_born_9 ?_
    refine EV.iret rfl dX6_born_10 ?_
    exact ⟨by simp [bornR, c6], by simp [bornD, c6]⟩
set_option maxHeartbeats 4000000 in
set_option maxRecDepth 20000 in
theorem c_X6_exile (d : Nat) (hA : inA A N) (hK : WFK K) (hW : WF F) (hP : WFP P) (hT : WFT T) (z : Int) (hz : inR z) : CT G l mX6_exile (d + 4) 0 0 [.ref (A 11), .int (zI (z))] (HP G h A N (K, (F, P, T, V), O, im, IL) X) (fun o h' => o = some (.int (zI (exR F z))) ∧ h' = HP G h A N (K, (exF F z, P, T, V), O, im, IL) X) := by
  refine CT.of (by decide) (Nat.le_of_ble_eq_true rfl) (List.forall_mem_cons.mpr ⟨rfl, List.forall_mem_cons.mpr ⟨rfl, fun _ h => absurd h List.not_mem_nil⟩⟩) ?_
  refine EV.lvs (lv' := [some (.ref (A 11)), some (.int (zI (z)))]) rfl ?_
  have g11 : (HP G h A N (K, (F, P, T, V), O, im, IL) X) (A 11) = some (obj 6 [.ref (A 12), .ref (A 14), .ref (A 26), .ref (A 27)]) := hGet hA _ _ 11 (by decide)
  have g14 : (HP G h A N (K, (F, P, T, V), O, im, IL) X) (A 14) = some (obj 1 [.ref (A 15), .ref (A 20), .ref (A 23)]) := hGet hA _ _ 14 (by decide)
  have g15 : (HP G h A N (K, (F, P, T, V), O, im, IL) X) (A 15) = some (obj 0 [.int (zI ((F.1 : Int))), .ref (A 16), .ref (A 17), .ref (A 18), .ref (A 19)]) := hGet hA _ _ 15 (by decide)
  have hK6 := hK.1
  have hP6 := hP.1
  have hT6 := hT.1
  have hth := hW.1
  have hF : FolkAt G (HP G h A N (K, (F, P, T, V), O, im, IL) X) F (A 15) (A 16) (A 17) (A 18) (A 19) V := hFolk hA
  refine EV.aload_n (i := 0) dX6_exile_0 rfl rfl ?_
  refine EV.iload_n (i := 1) dX6_exile_1 rfl rfl ?_
  refine EV.callVr (M' := mX6_isThere) (as := [.int (zI (z))]) (rest := []) ml_X6_69 im_X6_isThere se_X6_isThere rfl co_X6_isThere dX6_exile_2 g11 (c_X6_isThere (d + 0) hA hK hW hP hT z (by omega)) rfl rfl (Nat.le_of_ble_eq_true rfl) ?_
  refine EV.ifneB (t := 10) dX6_exile_5 (by decide) (fun c5 => ?_) (fun c5 => ?_)
  · skip
    obtain ⟨p, hp, rfl, hbp⟩ := thI_p c5
    refine EV.aload_n (i := 0) dX6_exile_10 rfl rfl ?_
    refine EV.getf fl_X6_19 dX6_exile_11 g11 rfl ?_
    refine EV.getf fl_X6_56 dX6_exile_14 g14 rfl ?_
    refine EV.dup dX6_exile_17 rfl ?_
    refine EV.getf fl_X6_72 dX6_exile_18 g15 rfl ?_
    refine EV.iconst dX6_exile_21 ?_
    refine EV.iload_n (i := 1) dX6_exile_22 rfl rfl ?_
    refine EV.ishlW dX6_exile_23 ?_
    refine EV.iconst dX6_exile_24 ?_
    refine EV.ixorW dX6_exile_25 ?_
    refine EV.iandW dX6_exile_26 ?_
    refine EV.top (y := zI (((clr F.1 p : Nat) : Int))) (by rw [zI_shl1 (by omega)]; exact clr_z F.1 hth p hp) ?_
    have hcl := clr_lt (p := p) hth
    refine EV.putf (fs' := [.int (zI (((clr F.1 p : Nat) : Int))), .ref (A 16), .ref (A 17), .ref (A 18), .ref (A 19)]) fp_X6_72 dX6_exile_27 g15 (Nat.le_of_ble_eq_true rfl) rfl rfl rfl ?_
    refine EV.hps (h' := HP G h A N (K, (((clr F.1 p), F.2.1, F.2.2.1, F.2.2.2), P, T, V), O, im, IL) X) (wF1 hA (clr F.1 p)) ?_
    have g11 : (HP G h A N (K, (((clr F.1 p), F.2.1, F.2.2.1, F.2.2.2), P, T, V), O, im, IL) X) (A 11) = some (obj 6 [.ref (A 12), .ref (A 14), .ref (A 26), .ref (A 27)]) := hGet hA _ _ 11 (by decide)
    have g14 : (HP G h A N (K, (((clr F.1 p), F.2.1, F.2.2.1, F.2.2.2), P, T, V), O, im, IL) X) (A 14) = some (obj 1 [.ref (A 15), .ref (A 20), .ref (A 23)]) := hGet hA _ _ 14 (by decide)
    have g15 : (HP G h A N (K, (((clr F.1 p), F.2.1, F.2.2.1, F.2.2.2), P, T, V), O, im, IL) X) (A 15) = some (obj 0 [.int (zI (((clr F.1 p : Nat) : Int))), .ref (A 16), .ref (A 17), .ref (A 18), .ref (A 19)]) := hGet hA _ _ 15 (by decide)
    refine EV.aload_n (i := 0) dX6_exile_30 rfl rfl ?_
    refine EV.getf fl_X6_19 dX6_exile_31 g11 rfl ?_
    refine EV.getf fl_X6_56 dX6_exile_34 g14 rfl ?_
    refine EV.getf fl_X6_72 dX6_exile_37 g15 rfl ?_
    refine EV.callSr (M' := mJ6_bitCount_0f7a4) (as := [.int (zI (((clr F.1 p : Nat) : Int)))]) (rest := []) ml_X6_75 sm_J6_bitCount_0f7a4 co_J6_bitCount_0f7a4 dX6_exile_40 (c_J6_bitCount_0f7a4 (d + 2) (clr F.1 p) (by omega)) rfl rfl (Nat.le_of_ble_eq_true rfl) ?_
    refine EV.iret rfl dX6_exile_43 ?_
    exact ⟨by simp [exR, c5], by simp [exF, c5]⟩
  · skip
    refine EV.iconst dX6_exile_8 ?_
    refine EV.iret rfl dX6_exile_9 ?_
    exact ⟨by simp [exR, c5], by simp [exF, c5]⟩
set_option maxHeartbeats 4000000 in
set_option maxRecDepth 20000 in
theorem c_X6_plan (d : Nat) (hA : inA A N) (hK : WFK K) (hW : WF F) (hP : WFP P) (hT : WFT T)  : CT G l mX6_plan (d + 4) 0 0 [.ref (A 11)] (HP G h A N (K, (F, P, T, V), O, im, IL) X) (fun o h' => o = some (.int (zI (planR K P))) ∧ h' = HP G h A N (planK K, (F, planP K P, T, V), O, im, IL) X) := by
  refine CT.of (by decide) (Nat.le_of_ble_eq_true rfl) (List.forall_mem_cons.mpr ⟨rfl, fun _ h => absurd h List.not_mem_nil⟩) ?_
  refine EV.lvs (lv' := [some (.ref (A 11))]) rfl ?_
  have g11 : (HP G h A N (K, (F, P, T, V), O, im, IL) X) (A 11) = some (obj 6 [.ref (A 12), .ref (A 14), .ref (A 26), .ref (A 27)]) := hGet hA _ _ 11 (by decide)
  have g12 : (HP G h A N (K, (F, P, T, V), O, im, IL) X) (A 12) = some (obj 3 [.ref (A 13), .int (zI ((K.1 : Int)))]) := hGet hA _ _ 12 (by decide)
  have g14 : (HP G h A N (K, (F, P, T, V), O, im, IL) X) (A 14) = some (obj 1 [.ref (A 15), .ref (A 20), .ref (A 23)]) := hGet hA _ _ 14 (by decide)
  have g20 : (HP G h A N (K, (F, P, T, V), O, im, IL) X) (A 20) = some (obj 4 [.int (zI ((P.1 : Int))), .ref (A 21), .ref (A 22)]) := hGet hA _ _ 20 (by decide)
  have hK6 := hK.1
  have hP6 := hP.1
  have hT6 := hT.1
  have hth := hW.1
  have hF : FolkAt G (HP G h A N (K, (F, P, T, V), O, im, IL) X) F (A 15) (A 16) (A 17) (A 18) (A 19) V := hFolk hA
  refine EV.aload_n (i := 0) dX6_plan_0 rfl rfl ?_
  refine EV.getf fl_X6_10 dX6_plan_1 g11 rfl ?_
  refine EV.callVr (M' := mX3_planFault) (as := []) (rest := []) ml_X6_50 im_X3_planFault se_X3_planFault rfl co_X3_planFault dX6_plan_4 g12 (c_X3_planFault (d + 0) hA hK ) rfl rfl (Nat.le_of_ble_eq_true rfl) ?_
  have hpfi := pfK_in K
  refine EV.bipush dX6_plan_7 (by decide) ?_
  refine EV.icmp_eq (t := 15) dX6_plan_9 (by decide) (by omega) (fun c9 => ?_) (fun c9 => ?_)
  · skip
    have hpf : pfK K = -6 := c9
    refine EV.aload_n (i := 0) dX6_plan_15 rfl rfl ?_
    refine EV.getf fl_X6_19 dX6_plan_16 g11 rfl ?_
    refine EV.getf fl_X6_81 dX6_plan_19 g14 rfl ?_
    refine EV.aload_n (i := 0) dX6_plan_22 rfl rfl ?_
    refine EV.getf fl_X6_10 dX6_plan_23 g11 rfl ?_
    refine EV.callV (M' := mX4_read) (as := [.ref (A 12)]) (rest := []) ml_X6_85 im_X4_read se_X4_read rfl co_X4_read dX6_plan_26 g20 (c_X4_read (d + 0) hA hK hpf) rfl rfl (Nat.le_of_ble_eq_true rfl) (Nat.le_of_ble_eq_true rfl) (Nat.le_of_ble_eq_true rfl) (fun v26 h26 q26 => ?_)
    obtain ⟨rfl, rfl⟩ := q26
    refine EV.sts (st' := []) rfl ?_
    have g11 : (HP G h A N (K, (F, rdS K P K.1, T, V), O, im, IL) X) (A 11) = some (obj 6 [.ref (A 12), .ref (A 14), .ref (A 26), .ref (A 27)]) := hGet hA _ _ 11 (by decide)
    have g12 : (HP G h A N (K, (F, rdS K P K.1, T, V), O, im, IL) X) (A 12) = some (obj 3 [.ref (A 13), .int (zI ((K.1 : Int)))]) := hGet hA _ _ 12 (by decide)
    have g14 : (HP G h A N (K, (F, rdS K P K.1, T, V), O, im, IL) X) (A 14) = some (obj 1 [.ref (A 15), .ref (A 20), .ref (A 23)]) := hGet hA _ _ 14 (by decide)
    have g20 : (HP G h A N (K, (F, rdS K P K.1, T, V), O, im, IL) X) (A 20) = some (obj 4 [.int (zI ((((rdS K P K.1).1 : Nat) : Int))), .ref (A 21), .ref (A 22)]) := hGet hA _ _ 20 (by decide)
    refine EV.aload_n (i := 0) dX6_plan_29 rfl rfl ?_
    refine EV.callV (M' := mX6_wipe) (as := []) (rest := []) ml_X6_66 im_X6_wipe se_X6_wipe rfl co_X6_wipe dX6_plan_30 g11 (c_X6_wipe (P := rdS K P K.1) (d + 2) hA hK hW (rdS_WFP hpf) hT) rfl rfl (Nat.le_of_ble_eq_true rfl) (Nat.le_of_ble_eq_true rfl) (Nat.le_of_ble_eq_true rfl) (fun v30 h30 q30 => ?_)
    obtain ⟨rfl, rfl⟩ := q30
    refine EV.sts (st' := [.int (zI ((K.1 : Int)))]) rfl ?_
    have g11 : (HP G h A N ((0, K.2), (F, rdS K P K.1, T, V), O, im, IL) X) (A 11) = some (obj 6 [.ref (A 12), .ref (A 14), .ref (A 26), .ref (A 27)]) := hGet hA _ _ 11 (by decide)
    have g12 : (HP G h A N ((0, K.2), (F, rdS K P K.1, T, V), O, im, IL) X) (A 12) = some (obj 3 [.ref (A 13), .int (zI ((0 : Int)))]) := hGet hA _ _ 12 (by decide)
    have g14 : (HP G h A N ((0, K.2), (F, rdS K P K.1, T, V), O, im, IL) X) (A 14) = some (obj 1 [.ref (A 15), .ref (A 20), .ref (A 23)]) := hGet hA _ _ 14 (by decide)
    have g20 : (HP G h A N ((0, K.2), (F, rdS K P K.1, T, V), O, im, IL) X) (A 20) = some (obj 4 [.int (zI ((((rdS K P K.1).1 : Nat) : Int))), .ref (A 21), .ref (A 22)]) := hGet hA _ _ 20 (by decide)
    refine EV.pop dX6_plan_33 rfl ?_
    refine EV.aload_n (i := 0) dX6_plan_34 rfl rfl ?_
    refine EV.getf fl_X6_19 dX6_plan_35 g11 rfl ?_
    refine EV.getf fl_X6_81 dX6_plan_38 g14 rfl ?_
    refine EV.getf fl_X6_91 dX6_plan_41 g20 rfl ?_
    refine EV.iret rfl dX6_plan_44 ?_
    exact ⟨by simp [planR, hpf], by simp [planK, planP, hpf]⟩
  · skip
    refine EV.bipush dX6_plan_12 (by decide) ?_
    refine EV.iret rfl dX6_plan_14 ?_
    exact ⟨by simp [planR, c9], by simp [planK, planP, c9]⟩
set_option maxHeartbeats 4000000 in
set_option maxRecDepth 20000 in
theorem c_X6_today (d : Nat) (hA : inA A N) (hK : WFK K) (hW : WF F) (hP : WFP P) (hT : WFT T) (z t : Int) (hz : inR z) (ht : inR t) : CT G l mX6_today (d + 4) 0 0 [.ref (A 11), .int (zI (z)), .int (zI (t))] (HP G h A N (K, (F, P, T, V), O, im, IL) X) (RQ (HP G h A N (K, (F, P, T, V), O, im, IL) X) (todayR F z t)) := by
  refine CT.of (by decide) (Nat.le_of_ble_eq_true rfl) (List.forall_mem_cons.mpr ⟨rfl, List.forall_mem_cons.mpr ⟨rfl, List.forall_mem_cons.mpr ⟨rfl, fun _ h => absurd h List.not_mem_nil⟩⟩⟩) ?_
  refine EV.lvs (lv' := [some (.ref (A 11)), some (.int (zI (z))), some (.int (zI (t)))]) rfl ?_
  have g11 : (HP G h A N (K, (F, P, T, V), O, im, IL) X) (A 11) = some (obj 6 [.ref (A 12), .ref (A 14), .ref (A 26), .ref (A 27)]) := hGet hA _ _ 11 (by decide)
  have g14 : (HP G h A N (K, (F, P, T, V), O, im, IL) X) (A 14) = some (obj 1 [.ref (A 15), .ref (A 20), .ref (A 23)]) := hGet hA _ _ 14 (by decide)
  have g15 : (HP G h A N (K, (F, P, T, V), O, im, IL) X) (A 15) = some (obj 0 [.int (zI ((F.1 : Int))), .ref (A 16), .ref (A 17), .ref (A 18), .ref (A 19)]) := hGet hA _ _ 15 (by decide)
  have hK6 := hK.1
  have hP6 := hP.1
  have hT6 := hT.1
  have hth := hW.1
  have hF : FolkAt G (HP G h A N (K, (F, P, T, V), O, im, IL) X) F (A 15) (A 16) (A 17) (A 18) (A 19) V := hFolk hA
  refine EV.aload_n (i := 0) dX6_today_0 rfl rfl ?_
  refine EV.iload_n (i := 1) dX6_today_1 rfl rfl ?_
  refine EV.callVr (M' := mX6_isThere) (as := [.int (zI (z))]) (rest := []) ml_X6_69 im_X6_isThere se_X6_isThere rfl co_X6_isThere dX6_today_2 g11 (c_X6_isThere (d + 0) hA hK hW hP hT z (by omega)) rfl rfl (Nat.le_of_ble_eq_true rfl) ?_
  refine EV.ifneB (t := 10) dX6_today_5 (by decide) (fun c5 => ?_) (fun c5 => ?_)
  · skip
    refine EV.iload_n (i := 2) dX6_today_10 rfl rfl ?_
    refine EV.callSr (M' := mX6_isDate) (as := [.int (zI (t))]) (rest := []) ml_X6_92 sm_X6_isDate co_X6_isDate dX6_today_11 (c_X6_isDate (d + 2) t (by omega)) rfl rfl (Nat.le_of_ble_eq_true rfl) ?_
    refine EV.ifeqB (t := 32) dX6_today_14 (by decide) (fun c14 => ?_) (fun c14 => ?_)
    · skip
      have c14r := of_nrg c14
      refine EV.bipush dX6_today_32 (by decide) ?_
      refine EV.iret rfl dX6_today_34 ?_
      exact rQ (by simp [todayR, c5, c14])
    · skip
      have c14r := of_rg c14
      refine EV.aload_n (i := 0) dX6_today_17 rfl rfl ?_
      refine EV.getf fl_X6_19 dX6_today_18 g11 rfl ?_
      refine EV.getf fl_X6_56 dX6_today_21 g14 rfl ?_
      refine EV.iload_n (i := 1) dX6_today_24 rfl rfl ?_
      refine EV.iload_n (i := 2) dX6_today_25 rfl rfl ?_
      refine EV.callVr (M' := mX0_dayOn) (as := [.int (zI (z)), .int (zI (t))]) (rest := []) ml_X6_95 im_X0_dayOn se_X0_dayOn rfl co_X0_dayOn dX6_today_26 g15 (c_X0_dayOn (d + 1) hF hW z t (by omega) (by omega)) rfl rfl (Nat.le_of_ble_eq_true rfl) ?_
      have hdb := hW.dnr z t
      refine EV.goto (t := 34) dX6_today_29 (by decide) ?_
      refine EV.iret rfl dX6_today_34 ?_
      exact rQ (by simp [todayR, c5, c14])
  · skip
    refine EV.iconst dX6_today_8 ?_
    refine EV.iret rfl dX6_today_9 ?_
    exact rQ (by simp [todayR, c5])
set_option maxHeartbeats 4000000 in
set_option maxRecDepth 20000 in
theorem c_X6_same (d : Nat) (hA : inA A N) (hK : WFK K) (hW : WF F) (hP : WFP P) (hT : WFT T) (D t : Int) (hD : inR D) (ht : inR t) : CT G l mX6_same (d + 4) 0 0 [.ref (A 11), .int (zI (D)), .int (zI (t))] (HP G h A N (K, (F, P, T, V), O, im, IL) X) (RQ (HP G h A N (K, (F, P, T, V), O, im, IL) X) (sameR F D t)) := by
  refine CT.of (by decide) (Nat.le_of_ble_eq_true rfl) (List.forall_mem_cons.mpr ⟨rfl, List.forall_mem_cons.mpr ⟨rfl, List.forall_mem_cons.mpr ⟨rfl, fun _ h => absurd h List.not_mem_nil⟩⟩⟩) ?_
  refine EV.lvs (lv' := [some (.ref (A 11)), some (.int (zI (D))), some (.int (zI (t)))]) rfl ?_
  have g11 : (HP G h A N (K, (F, P, T, V), O, im, IL) X) (A 11) = some (obj 6 [.ref (A 12), .ref (A 14), .ref (A 26), .ref (A 27)]) := hGet hA _ _ 11 (by decide)
  have g14 : (HP G h A N (K, (F, P, T, V), O, im, IL) X) (A 14) = some (obj 1 [.ref (A 15), .ref (A 20), .ref (A 23)]) := hGet hA _ _ 14 (by decide)
  have g15 : (HP G h A N (K, (F, P, T, V), O, im, IL) X) (A 15) = some (obj 0 [.int (zI ((F.1 : Int))), .ref (A 16), .ref (A 17), .ref (A 18), .ref (A 19)]) := hGet hA _ _ 15 (by decide)
  have hK6 := hK.1
  have hP6 := hP.1
  have hT6 := hT.1
  have hth := hW.1
  have hF : FolkAt G (HP G h A N (K, (F, P, T, V), O, im, IL) X) F (A 15) (A 16) (A 17) (A 18) (A 19) V := hFolk hA
  refine EV.iload_n (i := 1) dX6_same_0 rfl rfl ?_
  refine EV.bipush dX6_same_1 (by decide) ?_
  refine EV.callSr (M' := mX6_isOneOf) (as := [.int (zI (D)), .int (zI (8))]) (rest := []) ml_X6_42 sm_X6_isOneOf co_X6_isOneOf dX6_same_3 (c_X6_isOneOfL (d + 2) D 8 7 rfl (by omega) (by omega)) rfl rfl (Nat.le_of_ble_eq_true rfl) ?_
  refine EV.ifneB (t := 11) dX6_same_6 (by decide) (fun c6 => ?_) (fun c6 => ?_)
  · skip
    have c6r := of_rg c6
    refine EV.iload_n (i := 2) dX6_same_11 rfl rfl ?_
    refine EV.callSr (M' := mX6_isDate) (as := [.int (zI (t))]) (rest := []) ml_X6_92 sm_X6_isDate co_X6_isDate dX6_same_12 (c_X6_isDate (d + 2) t (by omega)) rfl rfl (Nat.le_of_ble_eq_true rfl) ?_
    refine EV.ifeqB (t := 33) dX6_same_15 (by decide) (fun c15 => ?_) (fun c15 => ?_)
    · skip
      have c15r := of_nrg c15
      refine EV.bipush dX6_same_33 (by decide) ?_
      refine EV.iret rfl dX6_same_35 ?_
      exact rQ (by simp [sameR, c6, c15])
    · skip
      have c15r := of_rg c15
      refine EV.aload_n (i := 0) dX6_same_18 rfl rfl ?_
      refine EV.getf fl_X6_19 dX6_same_19 g11 rfl ?_
      refine EV.getf fl_X6_56 dX6_same_22 g14 rfl ?_
      refine EV.iload_n (i := 1) dX6_same_25 rfl rfl ?_
      refine EV.iload_n (i := 2) dX6_same_26 rfl rfl ?_
      refine EV.callVr (M' := mX0_having) (as := [.int (zI (D)), .int (zI (t))]) (rest := []) ml_X6_99 im_X0_having se_X0_having rfl co_X0_having dX6_same_27 g15 (c_X0_having (d + 0) hF hW D t (by omega) (by omega)) rfl rfl (Nat.le_of_ble_eq_true rfl) ?_
      have hvl := hv_lt F D t
      refine EV.goto (t := 35) dX6_same_30 (by decide) ?_
      refine EV.iret rfl dX6_same_35 ?_
      exact rQ (by simp [sameR, c6, c15])
  · skip
    have c6r := of_nrg c6
    refine EV.iconst dX6_same_9 ?_
    refine EV.iret rfl dX6_same_10 ?_
    exact rQ (by simp [sameR, c6])
set_option maxHeartbeats 4000000 in
set_option maxRecDepth 20000 in
theorem c_X6_shared (d : Nat) (hA : inA A N) (hK : WFK K) (hW : WF F) (hP : WFP P) (hT : WFT T) (z y : Int) (hz : inR z) (hy : inR y) : CT G l mX6_shared (d + 5) 0 0 [.ref (A 11), .int (zI (z)), .int (zI (y))] (HP G h A N (K, (F, P, T, V), O, im, IL) X) (RQ (HP G h A N (K, (F, P, T, V), O, im, IL) X) (sharedR F z y)) := by
  refine CT.of (by decide) (Nat.le_of_ble_eq_true rfl) (List.forall_mem_cons.mpr ⟨rfl, List.forall_mem_cons.mpr ⟨rfl, List.forall_mem_cons.mpr ⟨rfl, fun _ h => absurd h List.not_mem_nil⟩⟩⟩) ?_
  refine EV.lvs (lv' := [some (.ref (A 11)), some (.int (zI (z))), some (.int (zI (y)))]) rfl ?_
  have g11 : (HP G h A N (K, (F, P, T, V), O, im, IL) X) (A 11) = some (obj 6 [.ref (A 12), .ref (A 14), .ref (A 26), .ref (A 27)]) := hGet hA _ _ 11 (by decide)
  have g14 : (HP G h A N (K, (F, P, T, V), O, im, IL) X) (A 14) = some (obj 1 [.ref (A 15), .ref (A 20), .ref (A 23)]) := hGet hA _ _ 14 (by decide)
  have g15 : (HP G h A N (K, (F, P, T, V), O, im, IL) X) (A 15) = some (obj 0 [.int (zI ((F.1 : Int))), .ref (A 16), .ref (A 17), .ref (A 18), .ref (A 19)]) := hGet hA _ _ 15 (by decide)
  have hK6 := hK.1
  have hP6 := hP.1
  have hT6 := hT.1
  have hth := hW.1
  have hF : FolkAt G (HP G h A N (K, (F, P, T, V), O, im, IL) X) F (A 15) (A 16) (A 17) (A 18) (A 19) V := hFolk hA
  refine EV.aload_n (i := 0) dX6_shared_0 rfl rfl ?_
  refine EV.iload_n (i := 1) dX6_shared_1 rfl rfl ?_
  refine EV.iload_n (i := 2) dX6_shared_2 rfl rfl ?_
  refine EV.callVr (M' := mX6_areTwoThere) (as := [.int (zI (z)), .int (zI (y))]) (rest := []) ml_X6_108 im_X6_areTwoThere se_X6_areTwoThere rfl co_X6_areTwoThere dX6_shared_3 g11 (c_X6_areTwoThere (d + 0) hA hK hW hP hT z y (by omega) (by omega)) rfl rfl (Nat.le_of_ble_eq_true rfl) ?_
  refine EV.ifneB (t := 11) dX6_shared_6 (by decide) (fun c6 => ?_) (fun c6 => ?_)
  · skip
    obtain ⟨p, q, hp, hq, rfl, rfl, hbp, hbq, hpq⟩ := twI_of c6
    refine EV.aload_n (i := 0) dX6_shared_11 rfl rfl ?_
    refine EV.getf fl_X6_19 dX6_shared_12 g11 rfl ?_
    refine EV.getf fl_X6_56 dX6_shared_15 g14 rfl ?_
    refine EV.iload_n (i := 1) dX6_shared_18 rfl rfl ?_
    refine EV.iload_n (i := 2) dX6_shared_19 rfl rfl ?_
    refine EV.sipush dX6_shared_20 (by decide) ?_
    refine EV.callVr (M' := mX0_sharedDates) (as := [.int (zI ((p : Int))), .int (zI ((q : Int))), .int (zI (840))]) (rest := []) ml_X6_111 im_X0_sharedDates se_X0_sharedDates rfl co_X0_sharedDates dX6_shared_23 g15 (c_X0_sharedDates (d + 0) hF hW p q hp hq hbp hbq 840 (by decide)) rfl rfl (Nat.le_of_ble_eq_true rfl) ?_
    have hsl := shr_le F p q 840
    refine EV.iret rfl dX6_shared_26 ?_
    exact rQ (by simp [sharedR, c6])
  · skip
    refine EV.iconst dX6_shared_9 ?_
    refine EV.iret rfl dX6_shared_10 ?_
    exact rQ (by simp [sharedR, c6])
set_option maxHeartbeats 4000000 in
set_option maxRecDepth 20000 in
theorem c_X6_isPair (d : Nat) (hA : inA A N) (hK : WFK K) (hW : WF F) (hP : WFP P) (hT : WFT T) (b : Bool) (p q : Nat) (hp : p < 6) (hq : q < 6) (hpq : p < q) : CT G l mX6_isPair (d + 5) 0 0 [.ref (A 11), .int (zI (bI (b))), .int (zI ((p : Int))), .int (zI ((q : Int)))] (HP G h A N (K, (F, P, T, V), O, im, IL) X) (RQ (HP G h A N (K, (F, P, T, V), O, im, IL) X) (bI (if b then twF F p q else nvF F p q))) := by
  refine CT.of (by decide) (Nat.le_of_ble_eq_true rfl) (List.forall_mem_cons.mpr ⟨rfl, List.forall_mem_cons.mpr ⟨rfl, List.forall_mem_cons.mpr ⟨rfl, List.forall_mem_cons.mpr ⟨rfl, fun _ h => absurd h List.not_mem_nil⟩⟩⟩⟩) ?_
  refine EV.lvs (lv' := [some (.ref (A 11)), some (.int (zI (bI (b)))), some (.int (zI ((p : Int)))), some (.int (zI ((q : Int))))]) rfl ?_
  have g11 : (HP G h A N (K, (F, P, T, V), O, im, IL) X) (A 11) = some (obj 6 [.ref (A 12), .ref (A 14), .ref (A 26), .ref (A 27)]) := hGet hA _ _ 11 (by decide)
  have g14 : (HP G h A N (K, (F, P, T, V), O, im, IL) X) (A 14) = some (obj 1 [.ref (A 15), .ref (A 20), .ref (A 23)]) := hGet hA _ _ 14 (by decide)
  have g15 : (HP G h A N (K, (F, P, T, V), O, im, IL) X) (A 15) = some (obj 0 [.int (zI ((F.1 : Int))), .ref (A 16), .ref (A 17), .ref (A 18), .ref (A 19)]) := hGet hA _ _ 15 (by decide)
  have hK6 := hK.1
  have hP6 := hP.1
  have hT6 := hT.1
  have hth := hW.1
  have hF : FolkAt G (HP G h A N (K, (F, P, T, V), O, im, IL) X) F (A 15) (A 16) (A 17) (A 18) (A 19) V := hFolk hA
  refine EV.aload_n (i := 0) dX6_isPair_0 rfl rfl ?_
  refine EV.iload_n (i := 2) dX6_isPair_1 rfl rfl ?_
  refine EV.iload_n (i := 3) dX6_isPair_2 rfl rfl ?_
  refine EV.callVr (M' := mX6_areTwoThere) (as := [.int (zI ((p : Int))), .int (zI ((q : Int)))]) (rest := []) ml_X6_108 im_X6_areTwoThere se_X6_areTwoThere rfl co_X6_areTwoThere dX6_isPair_3 g11 (c_X6_areTwoThere (d + 0) hA hK hW hP hT (p : Int) (q : Int) (by omega) (by omega)) rfl rfl (Nat.le_of_ble_eq_true rfl) ?_
  refine EV.ifneB (t := 11) dX6_isPair_6 (by decide) (fun c6 => ?_) (fun c6 => ?_)
  · skip
    obtain ⟨hbp, hbq⟩ := twI_n hp hq c6
    refine EV.iload_n (i := 1) dX6_isPair_11 rfl rfl ?_
    refine EV.ifeqB (t := 30) dX6_isPair_12 (by decide) (fun c12 => ?_) (fun c12 => ?_)
    · skip
      refine EV.aload_n (i := 0) dX6_isPair_30 rfl rfl ?_
      refine EV.getf fl_X6_19 dX6_isPair_31 g11 rfl ?_
      refine EV.getf fl_X6_56 dX6_isPair_34 g14 rfl ?_
      refine EV.iload_n (i := 2) dX6_isPair_37 rfl rfl ?_
      refine EV.iload_n (i := 3) dX6_isPair_38 rfl rfl ?_
      refine EV.callVr (M' := mX0_everShare) (as := [.int (zI ((p : Int))), .int (zI ((q : Int)))]) (rest := []) ml_X6_229 im_X0_everShare se_X0_everShare rfl co_X0_everShare dX6_isPair_39 g15 (c_X0_everShare (d + 0) hF hW p q hp hq hbp hbq) rfl rfl (Nat.le_of_ble_eq_true rfl) ?_
      refine EV.ifneB (t := 49) dX6_isPair_42 (by decide) (fun c42 => ?_) (fun c42 => ?_)
      · skip
        refine EV.iconst dX6_isPair_49 ?_
        refine EV.zret rfl (by decide) dX6_isPair_50 ?_
        exact rQ (by rw [c12, if_neg (by decide), nvF, hbp, hbq, c42]; rfl)
      · skip
        refine EV.iconst dX6_isPair_45 ?_
        refine EV.goto (t := 50) dX6_isPair_46 (by decide) ?_
        refine EV.zret rfl (by decide) dX6_isPair_50 ?_
        exact rQ (by rw [c12, if_neg (by decide), nvF, hbp, hbq, c42]; rfl)
    · skip
      refine EV.aload_n (i := 0) dX6_isPair_15 rfl rfl ?_
      refine EV.getf fl_X6_19 dX6_isPair_16 g11 rfl ?_
      refine EV.getf fl_X6_56 dX6_isPair_19 g14 rfl ?_
      refine EV.iload_n (i := 2) dX6_isPair_22 rfl rfl ?_
      refine EV.iload_n (i := 3) dX6_isPair_23 rfl rfl ?_
      refine EV.callVr (M' := mX0_areTwins) (as := [.int (zI ((p : Int))), .int (zI ((q : Int)))]) (rest := []) ml_X6_226 im_X0_areTwins se_X0_areTwins rfl co_X0_areTwins dX6_isPair_24 g15 (c_X0_areTwins (d + 0) hF hW p q hp hq hbp hbq) rfl rfl (Nat.le_of_ble_eq_true rfl) ?_
      refine EV.goto (t := 50) dX6_isPair_27 (by decide) ?_
      refine EV.zret rfl (nar_bI _) dX6_isPair_50 ?_
      exact rQ (by rw [c12, if_pos rfl, twF, hbp, hbq]; simp)
  · skip
    refine EV.iconst dX6_isPair_9 ?_
    refine EV.zret rfl (by decide) dX6_isPair_10 ?_
    exact rQ (bI_f (pr_no hp hq hpq c6))
set_option maxHeartbeats 4000000 in
set_option maxRecDepth 20000 in
theorem c_X6_pairs (d : Nat) (hA : inA A N) (hK : WFK K) (hW : WF F) (hP : WFP P) (hT : WFT T) (b : Bool) (i : Int) (hi : inR i) : CT G l mX6_pairs (d + 6) 0 0 [.ref (A 11), .int (zI (bI b)), .int (zI (i))] (HP G h A N (K, (F, P, T, V), O, im, IL) X) (RQ (HP G h A N (K, (F, P, T, V), O, im, IL) X) (prR (fun p q => if b then twF F p q else nvF F p q) i)) := by
  refine CT.of (by decide) (Nat.le_of_ble_eq_true rfl) (List.forall_mem_cons.mpr ⟨rfl, List.forall_mem_cons.mpr ⟨rfl, List.forall_mem_cons.mpr ⟨rfl, fun _ h => absurd h List.not_mem_nil⟩⟩⟩) ?_
  refine EV.lvs (lv' := [some (.ref (A 11)), some (.int (zI (bI b))), some (.int (zI (i))), none, none, none]) rfl ?_
  have g11 : (HP G h A N (K, (F, P, T, V), O, im, IL) X) (A 11) = some (obj 6 [.ref (A 12), .ref (A 14), .ref (A 26), .ref (A 27)]) := hGet hA _ _ 11 (by decide)
  have hK6 := hK.1
  have hP6 := hP.1
  have hT6 := hT.1
  have hth := hW.1
  have hF : FolkAt G (HP G h A N (K, (F, P, T, V), O, im, IL) X) F (A 15) (A 16) (A 17) (A 18) (A 19) V := hFolk hA
  refine EV.iconst dX6_pairs_0 ?_
  refine EV.istore_n (i := 3) (lv' := [some (.ref (A 11)), some (.int (zI (bI b))), some (.int (zI (i))), some (.int (zI (0))), none, none]) dX6_pairs_1 rfl (by decide) rfl ?_
  refine EV.iconst dX6_pairs_2 ?_
  refine EV.istore (i := 4) (lv' := [some (.ref (A 11)), some (.int (zI (bI b))), some (.int (zI (i))), some (.int (zI (0))), some (.int (zI (0))), none]) dX6_pairs_3 (by decide) rfl ?_
  have L5 : ∀ (n5 : Nat) (p : Nat) (n : Nat) (x3 x4 : Int), (p ≤ 6) → (n ≤ 8 * p) → (prR (fun p q => if b then twF F p q else nvF F p q) i = ith (fun p q => if b then twF F p q else nvF F p q) i (prs p (p + 1)) n) → 6 - p < n5 → x3 = (n : Int) → x4 = (p : Int) → EV G l mX6_pairs (d + 6) (RQ (HP G h A N (K, (F, P, T, V), O, im, IL) X) (prR (fun p q => if b then twF F p q else nvF F p q) i)) 5 [some (.ref (A 11)), some (.int (zI (bI b))), some (.int (zI (i))), some (.int (zI (x3))), some (.int (zI (x4))), none] [] (HP G h A N (K, (F, P, T, V), O, im, IL) X) 0 0 := by
    intro n5
    induction n5 with
    | zero => intro _ _ _ _ _ _ _ hm; exact absurd hm (Nat.not_lt_zero _)
    | succ n5 ih5 =>
      intro p n x3 x4 hp hn hx hm5 e3 e4
      subst e3 e4
      refine EV.iload (i := 4) dX6_pairs_5 rfl ?_
      refine EV.bipush dX6_pairs_7 (by decide) ?_
      refine EV.icmp_ge (t := 66) dX6_pairs_9 (by decide) (by omega) (fun c9 => ?_) (fun c9 => ?_)
      · skip
        obtain rfl : p = 6 := by omega
        refine EV.iload_n (i := 2) dX6_pairs_66 rfl rfl ?_
        refine EV.iconst dX6_pairs_67 ?_
        refine EV.icmp_ne (t := 75) dX6_pairs_68 (by decide) (by omega) (fun c68 => ?_) (fun c68 => ?_)
        · skip
          refine EV.bipush dX6_pairs_75 (by decide) ?_
          refine EV.iret rfl dX6_pairs_77 ?_
          exact rQ (by rw [ith_e hx, if_neg (by omega)])
        · skip
          refine EV.iload_n (i := 3) dX6_pairs_71 rfl rfl ?_
          refine EV.goto (t := 77) dX6_pairs_72 (by decide) ?_
          refine EV.iret rfl dX6_pairs_77 ?_
          exact rQ (by rw [ith_e hx, if_pos (by omega)])
      · skip
        refine EV.iload (i := 4) dX6_pairs_12 rfl ?_
        refine EV.iconst dX6_pairs_14 ?_
        refine EV.iadd dX6_pairs_15 ?_
        refine EV.istore (i := 5) (lv' := [some (.ref (A 11)), some (.int (zI (bI b))), some (.int (zI (i))), some (.int (zI ((n : Int)))), some (.int (zI ((p : Int)))), some (.int (zI (((p : Int) + 1))))]) dX6_pairs_16 (by decide) rfl ?_
        have L18 : ∀ (n18 : Nat) (q : Nat) (n1 : Nat) (x3 x5 : Int), (q ≤ 6) → (p < q) → (n1 ≤ 8 * p + q) → (prR (fun p q => if b then twF F p q else nvF F p q) i = ith (fun p q => if b then twF F p q else nvF F p q) i (prs p q) n1) → 6 - q < n18 → x3 = (n1 : Int) → x5 = (q : Int) → EV G l mX6_pairs (d + 6) (RQ (HP G h A N (K, (F, P, T, V), O, im, IL) X) (prR (fun p q => if b then twF F p q else nvF F p q) i)) 18 [some (.ref (A 11)), some (.int (zI (bI b))), some (.int (zI (i))), some (.int (zI (x3))), some (.int (zI ((p : Int)))), some (.int (zI (x5)))] [] (HP G h A N (K, (F, P, T, V), O, im, IL) X) 0 0 := by
          intro n18
          induction n18 with
          | zero => intro _ _ _ _ _ _ _ _ hm; exact absurd hm (Nat.not_lt_zero _)
          | succ n18 ih18 =>
            intro q n1 x3 x5 hq hpq hn1 hy hm18 e3 e5
            subst e3 e5
            refine EV.iload (i := 5) dX6_pairs_18 rfl ?_
            refine EV.bipush dX6_pairs_20 (by decide) ?_
            refine EV.icmp_ge (t := 60) dX6_pairs_22 (by decide) (by omega) (fun c22 => ?_) (fun c22 => ?_)
            · skip
              obtain rfl : q = 6 := by omega
              refine EV.iinc (i := 4) (lv' := [some (.ref (A 11)), some (.int (zI (bI b))), some (.int (zI (i))), some (.int (zI ((n1 : Int)))), some (.int (zI ((p : Int) + 1))), some (.int (zI (((6 : Nat) : Int))))]) dX6_pairs_60 rfl (by decide) rfl ?_
              refine EV.goto (t := 5) dX6_pairs_63 (by decide) ?_
              refine EV.drop 5 (lv' := [some (.ref (A 11)), some (.int (zI (bI b))), some (.int (zI (i))), some (.int (zI ((n1 : Int)))), some (.int (zI (((p : Int) + 1)))), none]) rfl ?_
              exact ih5 (p + 1) n1 _ _ (by omega) (by omega) (ith_r hy (by omega)) (by omega) (by rfl) (by rfl)
            · skip
              refine EV.aload_n (i := 0) dX6_pairs_25 rfl rfl ?_
              refine EV.iload_n (i := 1) dX6_pairs_26 rfl rfl ?_
              refine EV.iload (i := 4) dX6_pairs_27 rfl ?_
              refine EV.iload (i := 5) dX6_pairs_29 rfl ?_
              refine EV.callVr (M' := mX6_isPair) (as := [.int (zI (bI b)), .int (zI ((p : Int))), .int (zI ((q : Int)))]) (rest := []) ml_X6_222 im_X6_isPair se_X6_isPair rfl co_X6_isPair dX6_pairs_31 g11 (c_X6_isPair (d + 0) hA hK hW hP hT b p q (by omega) (by omega) (by omega)) rfl rfl (Nat.le_of_ble_eq_true rfl) ?_
              refine EV.ifeqB (t := 54) dX6_pairs_34 (by decide) (fun c34 => ?_) (fun c34 => ?_)
              · skip
                refine EV.iinc (i := 5) (lv' := [some (.ref (A 11)), some (.int (zI (bI b))), some (.int (zI (i))), some (.int (zI ((n1 : Int)))), some (.int (zI ((p : Int)))), some (.int (zI ((q : Int) + 1)))]) dX6_pairs_54 rfl (by decide) rfl ?_
                refine EV.goto (t := 18) dX6_pairs_57 (by decide) ?_
                exact ih18 (q + 1) n1 _ _ (by omega) (by omega) (by omega) (ith_n hy (by omega) (by omega) hpq c34) (by omega) (by rfl) (by rfl)
              · skip
                refine EV.iload_n (i := 3) dX6_pairs_37 rfl rfl ?_
                refine EV.iload_n (i := 2) dX6_pairs_38 rfl rfl ?_
                refine EV.icmp_ne (t := 51) dX6_pairs_39 (by decide) (by omega) (fun c39 => ?_) (fun c39 => ?_)
                · skip
                  refine EV.iinc (i := 3) (lv' := [some (.ref (A 11)), some (.int (zI (bI b))), some (.int (zI (i))), some (.int (zI ((n1 : Int) + 1))), some (.int (zI ((p : Int)))), some (.int (zI ((q : Int))))]) dX6_pairs_51 rfl (by decide) rfl ?_
                  refine EV.iinc (i := 5) (lv' := [some (.ref (A 11)), some (.int (zI (bI b))), some (.int (zI (i))), some (.int (zI (((n1 : Int) + 1)))), some (.int (zI ((p : Int)))), some (.int (zI ((q : Int) + 1)))]) dX6_pairs_54 rfl (by decide) rfl ?_
                  refine EV.goto (t := 18) dX6_pairs_57 (by decide) ?_
                  exact ih18 (q + 1) (n1 + 1) _ _ (by omega) (by omega) (by omega) (ith_u hy (by omega) (by omega) hpq c34 c39) (by omega) (by rfl) (by rfl)
                · skip
                  refine EV.bipush dX6_pairs_42 (by decide) ?_
                  refine EV.iload (i := 4) dX6_pairs_44 rfl ?_
                  refine EV.imul dX6_pairs_46 ?_
                  refine EV.iload (i := 5) dX6_pairs_47 rfl ?_
                  refine EV.iadd dX6_pairs_49 ?_
                  refine EV.iret rfl dX6_pairs_50 ?_
                  exact rQ (ith_y hy (by omega) (by omega) hpq c34 c39).symm
        exact L18 _ (p + 1) n _ _ (by omega) (by omega) (by omega) (hx) (Nat.lt_succ_self _) (by rfl) (by rfl)
  exact L5 _ 0 0 _ _ (by omega) (by omega) (rfl) (Nat.lt_succ_self _) (by rfl) (by rfl)
set_option maxHeartbeats 4000000 in
set_option maxRecDepth 20000 in
theorem c_X6_never (d : Nat) (hA : inA A N) (hK : WFK K) (hW : WF F) (hP : WFP P) (hT : WFT T) (i : Int) (hi : inR i) : CT G l mX6_never (d + 7) 0 0 [.ref (A 11), .int (zI (i))] (HP G h A N (K, (F, P, T, V), O, im, IL) X) (RQ (HP G h A N (K, (F, P, T, V), O, im, IL) X) (prR (nvF F) i)) := by
  refine CT.of (by decide) (Nat.le_of_ble_eq_true rfl) (List.forall_mem_cons.mpr ⟨rfl, List.forall_mem_cons.mpr ⟨rfl, fun _ h => absurd h List.not_mem_nil⟩⟩) ?_
  refine EV.lvs (lv' := [some (.ref (A 11)), some (.int (zI (i)))]) rfl ?_
  have g11 : (HP G h A N (K, (F, P, T, V), O, im, IL) X) (A 11) = some (obj 6 [.ref (A 12), .ref (A 14), .ref (A 26), .ref (A 27)]) := hGet hA _ _ 11 (by decide)
  have hK6 := hK.1
  have hP6 := hP.1
  have hT6 := hT.1
  have hth := hW.1
  have hF : FolkAt G (HP G h A N (K, (F, P, T, V), O, im, IL) X) F (A 15) (A 16) (A 17) (A 18) (A 19) V := hFolk hA
  refine EV.aload_n (i := 0) dX6_never_0 rfl rfl ?_
  refine EV.iconst dX6_never_1 ?_
  refine EV.iload_n (i := 1) dX6_never_2 rfl rfl ?_
  refine EV.callVr (M' := mX6_pairs) (as := [.int (zI (0)), .int (zI (i))]) (rest := []) ml_X6_115 im_X6_pairs se_X6_pairs rfl co_X6_pairs dX6_never_3 g11 (c_X6_pairs (d + 0) hA hK hW hP hT false i hi) rfl rfl (Nat.le_of_ble_eq_true rfl) ?_
  refine EV.iret rfl dX6_never_6 ?_
  exact rQ rfl
set_option maxHeartbeats 4000000 in
set_option maxRecDepth 20000 in
theorem c_X6_twins (d : Nat) (hA : inA A N) (hK : WFK K) (hW : WF F) (hP : WFP P) (hT : WFT T) (i : Int) (hi : inR i) : CT G l mX6_twins (d + 7) 0 0 [.ref (A 11), .int (zI (i))] (HP G h A N (K, (F, P, T, V), O, im, IL) X) (RQ (HP G h A N (K, (F, P, T, V), O, im, IL) X) (prR (twF F) i)) := by
  refine CT.of (by decide) (Nat.le_of_ble_eq_true rfl) (List.forall_mem_cons.mpr ⟨rfl, List.forall_mem_cons.mpr ⟨rfl, fun _ h => absurd h List.not_mem_nil⟩⟩) ?_
  refine EV.lvs (lv' := [some (.ref (A 11)), some (.int (zI (i)))]) rfl ?_
  have g11 : (HP G h A N (K, (F, P, T, V), O, im, IL) X) (A 11) = some (obj 6 [.ref (A 12), .ref (A 14), .ref (A 26), .ref (A 27)]) := hGet hA _ _ 11 (by decide)
  have hK6 := hK.1
  have hP6 := hP.1
  have hT6 := hT.1
  have hth := hW.1
  have hF : FolkAt G (HP G h A N (K, (F, P, T, V), O, im, IL) X) F (A 15) (A 16) (A 17) (A 18) (A 19) V := hFolk hA
  refine EV.aload_n (i := 0) dX6_twins_0 rfl rfl ?_
  refine EV.iconst dX6_twins_1 ?_
  refine EV.iload_n (i := 1) dX6_twins_2 rfl rfl ?_
  refine EV.callVr (M' := mX6_pairs) (as := [.int (zI (1)), .int (zI (i))]) (rest := []) ml_X6_115 im_X6_pairs se_X6_pairs rfl co_X6_pairs dX6_twins_3 g11 (c_X6_pairs (d + 0) hA hK hW hP hT true i hi) rfl rfl (Nat.le_of_ble_eq_true rfl) ?_
  refine EV.iret rfl dX6_twins_6 ?_
  exact rQ rfl
end
