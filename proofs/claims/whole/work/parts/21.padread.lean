section
variable {G : GG} {l : Launch}
variable {h : Hp} {A : Nat → Nat} {N : Nat} {K : PD} {F : FK} {P : PL} {T : ST} {V : Nat → Int} {O : MO} {im : Nat → Option Nat} {IL : Nat → LQ} {X : MX}
set_option maxHeartbeats 4000000 in
set_option maxRecDepth 20000 in
theorem c_X3_signAt (d : Nat) (hA : inA A N) (k : Nat) (hk : k < 60) : CT G l mX3_signAt (d + 2) 0 0 [.ref (A 12), .int (zI ((k : Int)))] (HP G h A N (K, (F, P, T, V), O, im, IL) X) (RQ (HP G h A N (K, (F, P, T, V), O, im, IL) X) (K.2 k)) := by
  refine CT.of (by decide) (Nat.le_of_ble_eq_true rfl) (List.forall_mem_cons.mpr ⟨rfl, List.forall_mem_cons.mpr ⟨rfl, fun _ h => absurd h List.not_mem_nil⟩⟩) ?_
  refine EV.lvs (lv' := [some (.ref (A 12)), some (.int (zI ((k : Int))))]) rfl ?_
  have g12 : (HP G h A N (K, (F, P, T, V), O, im, IL) X) (A 12) = some (obj 3 [.ref (A 13), .int (zI ((K.1 : Int)))]) := hGet hA _ _ 12 (by decide)
  have g13 : (HP G h A N (K, (F, P, T, V), O, im, IL) X) (A 13) = some (arI G 60 K.2) := hGet hA _ _ 13 (by decide)
  refine EV.iload_n (i := 1) dX3_signAt_0 rfl rfl ?_
  refine EV.bipush dX3_signAt_1 (by decide) ?_
  refine EV.callSNr (M' := mX6_isOneOf) (as := [.int (zI ((k : Int))), .int (zI (60))]) (rest := []) (host := RX6) (by decide) sm_X6_isOneOf co_X6_isOneOf dX3_signAt_3 (c_X6_isOneOf (d + 0) (k : Int) 60 (by omega) (by omega)) rfl rfl (Nat.le_of_ble_eq_true rfl) ?_
  refine EV.ifeqB (t := 18) dX3_signAt_6 (by decide) (fun c6 => ?_) (fun c6 => ?_)
  · skip
    have c6r := of_nrg c6
    omega
  · skip
    have c6r := of_rg c6
    refine EV.aload_n (i := 0) dX3_signAt_9 rfl rfl ?_
    refine EV.getf fl_X3_9 dX3_signAt_10 g12 rfl ?_
    refine EV.iload_n (i := 1) dX3_signAt_13 rfl rfl ?_
    refine EV.iald dX3_signAt_14 g13 (k) (rfl) (by omega) ?_
    refine EV.goto (t := 19) dX3_signAt_15 (by decide) ?_
    refine EV.iret rfl dX3_signAt_19 ?_
    exact rQ rfl
set_option maxHeartbeats 4000000 in
set_option maxRecDepth 20000 in
theorem c_X4_dayOf (d : Nat) (hA : inA A N) (k : Nat) (hk : k < 6) : CT G l mX4_dayOf (d + 2) 0 0 [.ref (A 20), .int (zI ((k : Int)))] (HP G h A N (K, (F, P, T, V), O, im, IL) X) (RQ (HP G h A N (K, (F, P, T, V), O, im, IL) X) (P.2.1 k)) := by
  refine CT.of (by decide) (Nat.le_of_ble_eq_true rfl) (List.forall_mem_cons.mpr ⟨rfl, List.forall_mem_cons.mpr ⟨rfl, fun _ h => absurd h List.not_mem_nil⟩⟩) ?_
  refine EV.lvs (lv' := [some (.ref (A 20)), some (.int (zI ((k : Int))))]) rfl ?_
  have g20 : (HP G h A N (K, (F, P, T, V), O, im, IL) X) (A 20) = some (obj 4 [.int (zI ((P.1 : Int))), .ref (A 21), .ref (A 22)]) := hGet hA _ _ 20 (by decide)
  have g21 : (HP G h A N (K, (F, P, T, V), O, im, IL) X) (A 21) = some (arI G 6 P.2.1) := hGet hA _ _ 21 (by decide)
  refine EV.iload_n (i := 1) dX4_dayOf_0 rfl rfl ?_
  refine EV.bipush dX4_dayOf_1 (by decide) ?_
  refine EV.callSNr (M' := mX6_isOneOf) (as := [.int (zI ((k : Int))), .int (zI (6))]) (rest := []) (host := RX6) (by decide) sm_X6_isOneOf co_X6_isOneOf dX4_dayOf_3 (c_X6_isOneOf (d + 0) (k : Int) 6 (by omega) (by omega)) rfl rfl (Nat.le_of_ble_eq_true rfl) ?_
  refine EV.ifeqB (t := 18) dX4_dayOf_6 (by decide) (fun c6 => ?_) (fun c6 => ?_)
  · skip
    have c6r := of_nrg c6
    omega
  · skip
    have c6r := of_rg c6
    refine EV.aload_n (i := 0) dX4_dayOf_9 rfl rfl ?_
    refine EV.getf fl_X4_9 dX4_dayOf_10 g20 rfl ?_
    refine EV.iload_n (i := 1) dX4_dayOf_13 rfl rfl ?_
    refine EV.iald dX4_dayOf_14 g21 (k) (rfl) (by omega) ?_
    refine EV.goto (t := 20) dX4_dayOf_15 (by decide) ?_
    refine EV.iret rfl dX4_dayOf_20 ?_
    exact rQ rfl
set_option maxHeartbeats 4000000 in
set_option maxRecDepth 20000 in
theorem c_X5_dateOf (d : Nat) (hA : inA A N) (k : Nat) (hk : k < 6) : CT G l mX5_dateOf (d + 2) 0 0 [.ref (A 23), .int (zI ((k : Int)))] (HP G h A N (K, (F, P, T, V), O, im, IL) X) (RQ (HP G h A N (K, (F, P, T, V), O, im, IL) X) (T.2.1 k)) := by
  refine CT.of (by decide) (Nat.le_of_ble_eq_true rfl) (List.forall_mem_cons.mpr ⟨rfl, List.forall_mem_cons.mpr ⟨rfl, fun _ h => absurd h List.not_mem_nil⟩⟩) ?_
  refine EV.lvs (lv' := [some (.ref (A 23)), some (.int (zI ((k : Int))))]) rfl ?_
  have g23 : (HP G h A N (K, (F, P, T, V), O, im, IL) X) (A 23) = some (obj 5 [.int (zI ((T.1 : Int))), .ref (A 24), .ref (A 25)]) := hGet hA _ _ 23 (by decide)
  have g24 : (HP G h A N (K, (F, P, T, V), O, im, IL) X) (A 24) = some (arI G 6 T.2.1) := hGet hA _ _ 24 (by decide)
  refine EV.iload_n (i := 1) dX5_dateOf_0 rfl rfl ?_
  refine EV.bipush dX5_dateOf_1 (by decide) ?_
  refine EV.callSNr (M' := mX6_isOneOf) (as := [.int (zI ((k : Int))), .int (zI (6))]) (rest := []) (host := RX6) (by decide) sm_X6_isOneOf co_X6_isOneOf dX5_dateOf_3 (c_X6_isOneOf (d + 0) (k : Int) 6 (by omega) (by omega)) rfl rfl (Nat.le_of_ble_eq_true rfl) ?_
  refine EV.ifeqB (t := 18) dX5_dateOf_6 (by decide) (fun c6 => ?_) (fun c6 => ?_)
  · skip
    have c6r := of_nrg c6
    omega
  · skip
    have c6r := of_rg c6
    refine EV.aload_n (i := 0) dX5_dateOf_9 rfl rfl ?_
    refine EV.getf fl_X5_9 dX5_dateOf_10 g23 rfl ?_
    refine EV.iload_n (i := 1) dX5_dateOf_13 rfl rfl ?_
    refine EV.iald dX5_dateOf_14 g24 (k) (rfl) (by omega) ?_
    refine EV.goto (t := 19) dX5_dateOf_15 (by decide) ?_
    refine EV.iret rfl dX5_dateOf_19 ?_
    exact rQ rfl
set_option maxHeartbeats 4000000 in
set_option maxRecDepth 20000 in
theorem c_X4_peopleOf (d : Nat) (hA : inA A N) (k : Nat) (hk : k < 6) : CT G l mX4_peopleOf (d + 2) 0 0 [.ref (A 20), .int (zI ((k : Int)))] (HP G h A N (K, (F, P, T, V), O, im, IL) X) (RQ (HP G h A N (K, (F, P, T, V), O, im, IL) X) ((P.2.2 k : Int))) := by
  refine CT.of (by decide) (Nat.le_of_ble_eq_true rfl) (List.forall_mem_cons.mpr ⟨rfl, List.forall_mem_cons.mpr ⟨rfl, fun _ h => absurd h List.not_mem_nil⟩⟩) ?_
  refine EV.lvs (lv' := [some (.ref (A 20)), some (.int (zI ((k : Int))))]) rfl ?_
  have g20 : (HP G h A N (K, (F, P, T, V), O, im, IL) X) (A 20) = some (obj 4 [.int (zI ((P.1 : Int))), .ref (A 21), .ref (A 22)]) := hGet hA _ _ 20 (by decide)
  have g22 : (HP G h A N (K, (F, P, T, V), O, im, IL) X) (A 22) = some (arI G 6 (nf P.2.2)) := hGet hA _ _ 22 (by decide)
  refine EV.iload_n (i := 1) dX4_peopleOf_0 rfl rfl ?_
  refine EV.bipush dX4_peopleOf_1 (by decide) ?_
  refine EV.callSNr (M' := mX6_isOneOf) (as := [.int (zI ((k : Int))), .int (zI (6))]) (rest := []) (host := RX6) (by decide) sm_X6_isOneOf co_X6_isOneOf dX4_peopleOf_3 (c_X6_isOneOf (d + 0) (k : Int) 6 (by omega) (by omega)) rfl rfl (Nat.le_of_ble_eq_true rfl) ?_
  refine EV.ifeqB (t := 18) dX4_peopleOf_6 (by decide) (fun c6 => ?_) (fun c6 => ?_)
  · skip
    have c6r := of_nrg c6
    omega
  · skip
    have c6r := of_rg c6
    refine EV.aload_n (i := 0) dX4_peopleOf_9 rfl rfl ?_
    refine EV.getf fl_X4_15 dX4_peopleOf_10 g20 rfl ?_
    refine EV.iload_n (i := 1) dX4_peopleOf_13 rfl rfl ?_
    refine EV.iald dX4_peopleOf_14 g22 (k) (rfl) (by omega) ?_
    refine EV.goto (t := 19) dX4_peopleOf_15 (by decide) ?_
    refine EV.iret rfl dX4_peopleOf_19 ?_
    exact rQ rfl
set_option maxHeartbeats 4000000 in
set_option maxRecDepth 20000 in
theorem c_X5_wasShut (d : Nat) (hA : inA A N) (k : Nat) (hk : k < 6) (hr : inR (T.2.2 k)) : CT G l mX5_wasShut (d + 2) 0 0 [.ref (A 23), .int (zI ((k : Int)))] (HP G h A N (K, (F, P, T, V), O, im, IL) X) (RQ (HP G h A N (K, (F, P, T, V), O, im, IL) X) (bI (decide (T.2.2 k = 1)))) := by
  refine CT.of (by decide) (Nat.le_of_ble_eq_true rfl) (List.forall_mem_cons.mpr ⟨rfl, List.forall_mem_cons.mpr ⟨rfl, fun _ h => absurd h List.not_mem_nil⟩⟩) ?_
  refine EV.lvs (lv' := [some (.ref (A 23)), some (.int (zI ((k : Int))))]) rfl ?_
  have g23 : (HP G h A N (K, (F, P, T, V), O, im, IL) X) (A 23) = some (obj 5 [.int (zI ((T.1 : Int))), .ref (A 24), .ref (A 25)]) := hGet hA _ _ 23 (by decide)
  have g25 : (HP G h A N (K, (F, P, T, V), O, im, IL) X) (A 25) = some (arI G 6 T.2.2) := hGet hA _ _ 25 (by decide)
  refine EV.iload_n (i := 1) dX5_wasShut_0 rfl rfl ?_
  refine EV.bipush dX5_wasShut_1 (by decide) ?_
  refine EV.callSNr (M' := mX6_isOneOf) (as := [.int (zI ((k : Int))), .int (zI (6))]) (rest := []) (host := RX6) (by decide) sm_X6_isOneOf co_X6_isOneOf dX5_wasShut_3 (c_X6_isOneOf (d + 0) (k : Int) 6 (by omega) (by omega)) rfl rfl (Nat.le_of_ble_eq_true rfl) ?_
  refine EV.ifeqB (t := 23) dX5_wasShut_6 (by decide) (fun c6 => ?_) (fun c6 => ?_)
  · skip
    have c6r := of_nrg c6
    omega
  · skip
    have c6r := of_rg c6
    refine EV.aload_n (i := 0) dX5_wasShut_9 rfl rfl ?_
    refine EV.getf fl_X5_15 dX5_wasShut_10 g23 rfl ?_
    refine EV.iload_n (i := 1) dX5_wasShut_13 rfl rfl ?_
    refine EV.iald dX5_wasShut_14 g25 (k) (rfl) (by omega) ?_
    refine EV.iconst dX5_wasShut_15 ?_
    refine EV.icmp_ne (t := 23) dX5_wasShut_16 (by decide) (by omega) (fun c16 => ?_) (fun c16 => ?_)
    · skip
      refine EV.iconst dX5_wasShut_23 ?_
      refine EV.zret rfl (by decide) dX5_wasShut_24 ?_
      exact rQ (bI_f (decide_eq_false c16))
    · skip
      refine EV.iconst dX5_wasShut_19 ?_
      refine EV.goto (t := 24) dX5_wasShut_20 (by decide) ?_
      refine EV.zret rfl (by decide) dX5_wasShut_24 ?_
      exact rQ (bI_t (decide_eq_true c16))
set_option maxHeartbeats 4000000 in
set_option maxRecDepth 20000 in
theorem c_X3_orderFault (d : Nat) (hA : inA A N) (hK : WFK K) : CT G l mX3_orderFault (d + 3) 0 0 [.ref (A 12)] (HP G h A N (K, (F, P, T, V), O, im, IL) X) (RQ (HP G h A N (K, (F, P, T, V), O, im, IL) X) (ofK K)) := by
  refine CT.of (by decide) (Nat.le_of_ble_eq_true rfl) (List.forall_mem_cons.mpr ⟨rfl, fun _ h => absurd h List.not_mem_nil⟩) ?_
  refine EV.lvs (lv' := [some (.ref (A 12)), none, none, none]) rfl ?_
  have g12 : (HP G h A N (K, (F, P, T, V), O, im, IL) X) (A 12) = some (obj 3 [.ref (A 13), .int (zI ((K.1 : Int)))]) := hGet hA _ _ 12 (by decide)
  have g13 : (HP G h A N (K, (F, P, T, V), O, im, IL) X) (A 13) = some (arI G 60 K.2) := hGet hA _ _ 13 (by decide)
  have hK6 := hK.1
  refine EV.iconst dX3_orderFault_0 ?_
  refine EV.istore_n (i := 1) (lv' := [some (.ref (A 12)), some (.int (zI (0))), none, none]) dX3_orderFault_1 rfl (by decide) rfl ?_
  refine EV.iconst dX3_orderFault_2 ?_
  refine EV.istore_n (i := 2) (lv' := [some (.ref (A 12)), some (.int (zI (0))), some (.int (zI (0))), none]) dX3_orderFault_3 rfl (by decide) rfl ?_
  have L4 : ∀ (n4 : Nat) (k : Nat) (L : Nat) (x1 x2 : Int), (k ≤ K.1) → (L < 256) → (ofK K = ofr K (K.1 - k) k L) → K.1 - k < n4 → x1 = (L : Int) → x2 = (k : Int) → EV G l mX3_orderFault (d + 3) (RQ (HP G h A N (K, (F, P, T, V), O, im, IL) X) (ofK K)) 4 [some (.ref (A 12)), some (.int (zI (x1))), some (.int (zI (x2))), none] [] (HP G h A N (K, (F, P, T, V), O, im, IL) X) 0 0 := by
    intro n4
    induction n4 with
    | zero => intro _ _ _ _ _ _ _ hm; exact absurd hm (Nat.not_lt_zero _)
    | succ n4 ih4 =>
      intro k L x1 x2 hk hL hx hm4 e1 e2
      subst e1 e2
      refine EV.iload_n (i := 2) dX3_orderFault_4 rfl rfl ?_
      refine EV.aload_n (i := 0) dX3_orderFault_5 rfl rfl ?_
      refine EV.getf fl_X3_15 dX3_orderFault_6 g12 rfl ?_
      refine EV.icmp_ge (t := 53) dX3_orderFault_9 (by decide) (by omega) (fun c9 => ?_) (fun c9 => ?_)
      · skip
        obtain rfl : k = K.1 := by omega
        refine EV.aload_n (i := 0) dX3_orderFault_53 rfl rfl ?_
        refine EV.getf fl_X3_15 dX3_orderFault_54 g12 rfl ?_
        refine EV.iconst dX3_orderFault_57 ?_
        refine EV.icmp_ge (t := 68) dX3_orderFault_58 (by decide) (by omega) (fun c58 => ?_) (fun c58 => ?_)
        · skip
          refine EV.bipush dX3_orderFault_68 (by decide) ?_
          refine EV.iret rfl dX3_orderFault_70 ?_
          exact rQ (by rw [ofr_e hx, if_neg (by omega)])
        · skip
          refine EV.aload_n (i := 0) dX3_orderFault_61 rfl rfl ?_
          refine EV.getf fl_X3_15 dX3_orderFault_62 g12 rfl ?_
          refine EV.goto (t := 70) dX3_orderFault_65 (by decide) ?_
          refine EV.iret rfl dX3_orderFault_70 ?_
          exact rQ (by rw [ofr_e hx, if_pos (by omega)])
      · skip
        have hsg := hK.2 k (by omega)
        refine EV.aload_n (i := 0) dX3_orderFault_12 rfl rfl ?_
        refine EV.iload_n (i := 2) dX3_orderFault_13 rfl rfl ?_
        refine EV.callVr (M' := mX3_signAt) (as := [.int (zI ((k : Int)))]) (rest := []) ml_X3_23 im_X3_signAt se_X3_signAt rfl co_X3_signAt dX3_orderFault_14 g12 (c_X3_signAt (d + 0) hA k (by omega)) rfl rfl (Nat.le_of_ble_eq_true rfl) ?_
        refine EV.bipush dX3_orderFault_17 (by decide) ?_
        refine EV.isub dX3_orderFault_19 ?_
        refine EV.istore_n (i := 3) (lv' := [some (.ref (A 12)), some (.int (zI ((L : Int)))), some (.int (zI ((k : Int)))), some (.int (zI ((K.2 k - 97))))]) dX3_orderFault_20 rfl (by decide) rfl ?_
        refine EV.iload_n (i := 3) dX3_orderFault_21 rfl rfl ?_
        refine EV.bipush dX3_orderFault_22 (by decide) ?_
        refine EV.callSNr (M' := mX6_isOneOf) (as := [.int (zI ((K.2 k - 97))), .int (zI (8))]) (rest := []) (host := RX6) (by decide) sm_X6_isOneOf co_X6_isOneOf dX3_orderFault_24 (c_X6_isOneOf (d + 1) (K.2 k - 97) 8 (by omega) (by omega)) rfl rfl (Nat.le_of_ble_eq_true rfl) ?_
        refine EV.ifeqB (t := 39) dX3_orderFault_27 (by decide) (fun c27 => ?_) (fun c27 => ?_)
        · skip
          have c27r := of_nrg c27
          refine EV.iload_n (i := 2) dX3_orderFault_39 rfl rfl ?_
          refine EV.iret rfl dX3_orderFault_40 ?_
          exact rQ (ofr_n hx (by omega) (okL_1 (by omega)))
        · skip
          have c27r := of_rg c27
          obtain ⟨j, hj⟩ : ∃ j : Nat, K.2 k - 97 = (j : Int) := ⟨(K.2 k - 97).toNat, by omega⟩
          refine EV.lvs (lv' := [some (.ref (A 12)), some (.int (zI ((L : Int)))), some (.int (zI ((k : Int)))), some (.int (zI ((j : Int))))]) (by rw [hj]) ?_
          refine EV.iload_n (i := 1) dX3_orderFault_30 rfl rfl ?_
          refine EV.iload_n (i := 3) dX3_orderFault_31 rfl rfl ?_
          refine EV.ishrW dX3_orderFault_32 ?_
          refine EV.iconst dX3_orderFault_33 ?_
          refine EV.iandW dX3_orderFault_34 ?_
          refine EV.top (y := zI (bI (L.testBit j))) (zI_bit (by omega) (by omega)) ?_
          refine EV.iconst dX3_orderFault_35 ?_
          refine EV.icmp_ne (t := 41) dX3_orderFault_36 (by decide) (bI_r1 _) (fun c36 => ?_) (fun c36 => ?_)
          · skip
            have c36 := bI_ne1 c36
            refine EV.iload_n (i := 1) dX3_orderFault_41 rfl rfl ?_
            refine EV.iconst dX3_orderFault_42 ?_
            refine EV.iload_n (i := 3) dX3_orderFault_43 rfl rfl ?_
            refine EV.ishlW dX3_orderFault_44 ?_
            refine EV.iorW dX3_orderFault_45 ?_
            refine EV.top (y := zI (((L ||| 2 ^ j : Nat) : Int))) (zI_orj (by omega)) ?_
            refine EV.istore_n (i := 1) (lv' := [some (.ref (A 12)), some (.int (zI (((L ||| 2 ^ j : Nat) : Int)))), some (.int (zI ((k : Int)))), some (.int (zI ((j : Int))))]) dX3_orderFault_46 rfl (by decide) rfl ?_
            refine EV.iinc (i := 2) (lv' := [some (.ref (A 12)), some (.int (zI (((L ||| 2 ^ j : Nat) : Int)))), some (.int (zI ((k : Int) + 1))), some (.int (zI ((j : Int))))]) dX3_orderFault_47 rfl (by decide) rfl ?_
            refine EV.goto (t := 4) dX3_orderFault_50 (by decide) ?_
            refine EV.drop 3 (lv' := [some (.ref (A 12)), some (.int (zI (((L ||| 2 ^ j : Nat) : Int)))), some (.int (zI (((k : Int) + 1)))), none]) rfl ?_
            exact ih4 (k + 1) (L ||| 2 ^ j) _ _ (by omega) (lor_lt8 hL (by omega)) (by have := ofr_y hx (by omega) (okL_3 hj (by omega) c36); rw [hj, Int.toNat_natCast] at this; exact this) (by omega) (by rfl) (by rfl)
          · skip
            have c36 := bI_eq1 c36
            refine EV.iload_n (i := 2) dX3_orderFault_39 rfl rfl ?_
            refine EV.iret rfl dX3_orderFault_40 ?_
            exact rQ (ofr_n hx (by omega) (okL_2 hj c36))
  exact L4 _ 0 0 _ _ (by omega) (by decide) (rfl) (Nat.lt_succ_self _) (by rfl) (by rfl)
set_option maxHeartbeats 4000000 in
set_option maxRecDepth 20000 in
theorem c_X3_planFault (d : Nat) (hA : inA A N) (hK : WFK K) : CT G l mX3_planFault (d + 3) 0 0 [.ref (A 12)] (HP G h A N (K, (F, P, T, V), O, im, IL) X) (RQ (HP G h A N (K, (F, P, T, V), O, im, IL) X) (pfK K)) := by
  refine CT.of (by decide) (Nat.le_of_ble_eq_true rfl) (List.forall_mem_cons.mpr ⟨rfl, fun _ h => absurd h List.not_mem_nil⟩) ?_
  refine EV.lvs (lv' := [some (.ref (A 12)), none, none, none, none, none, none]) rfl ?_
  have g12 : (HP G h A N (K, (F, P, T, V), O, im, IL) X) (A 12) = some (obj 3 [.ref (A 13), .int (zI ((K.1 : Int)))]) := hGet hA _ _ 12 (by decide)
  have g13 : (HP G h A N (K, (F, P, T, V), O, im, IL) X) (A 13) = some (arI G 60 K.2) := hGet hA _ _ 13 (by decide)
  have hK6 := hK.1
  refine EV.iconst dX3_planFault_0 ?_
  refine EV.istore_n (i := 1) (lv' := [some (.ref (A 12)), some (.int (zI (0))), none, none, none, none, none]) dX3_planFault_1 rfl (by decide) rfl ?_
  refine EV.iconst dX3_planFault_2 ?_
  refine EV.istore_n (i := 2) (lv' := [some (.ref (A 12)), some (.int (zI (0))), some (.int (zI (0))), none, none, none, none]) dX3_planFault_3 rfl (by decide) rfl ?_
  refine EV.iconst dX3_planFault_4 ?_
  refine EV.istore_n (i := 3) (lv' := [some (.ref (A 12)), some (.int (zI (0))), some (.int (zI (0))), some (.int (zI ((-1)))), none, none, none]) dX3_planFault_5 rfl (by decide) rfl ?_
  refine EV.iconst dX3_planFault_6 ?_
  refine EV.istore (i := 4) (lv' := [some (.ref (A 12)), some (.int (zI (0))), some (.int (zI (0))), some (.int (zI ((-1)))), some (.int (zI (0))), none, none]) dX3_planFault_7 (by decide) rfl ?_
  have L9 : ∀ (n9 : Nat) (k : Nat) (w : Nat) (o : Int) (t : Int) (s : Int) (x1 x4 : Int), (k ≤ K.1) → (w ≤ 6) → ((o = 0 ∧ s = -2) ∨ (o = 1 ∧ s = t ∧ -1 ≤ t ∧ t ≤ 5)) → (-1 ≤ t ∧ t ≤ 5) → (pfK K = pfr K (K.1 - k) k w s) → K.1 - k < n9 → x1 = (w : Int) → x4 = (k : Int) → EV G l mX3_planFault (d + 3) (RQ (HP G h A N (K, (F, P, T, V), O, im, IL) X) (pfK K)) 9 [some (.ref (A 12)), some (.int (zI (x1))), some (.int (zI (o))), some (.int (zI (t))), some (.int (zI (x4))), none, none] [] (HP G h A N (K, (F, P, T, V), O, im, IL) X) 0 0 := by
    intro n9
    induction n9 with
    | zero => intro _ _ _ _ _ _ _ _ _ _ _ _ hm; exact absurd hm (Nat.not_lt_zero _)
    | succ n9 ih9 =>
      intro k w o t s x1 x4 hk hw ho ht hx hm9 e1 e4
      subst e1 e4
      refine EV.iload (i := 4) dX3_planFault_9 rfl ?_
      refine EV.aload_n (i := 0) dX3_planFault_11 rfl rfl ?_
      refine EV.getf fl_X3_15 dX3_planFault_12 g12 rfl ?_
      refine EV.icmp_ge (t := 110) dX3_planFault_15 (by decide) (by omega) (fun c15 => ?_) (fun c15 => ?_)
      · skip
        obtain rfl : k = K.1 := by omega
        refine EV.iload_n (i := 2) dX3_planFault_110 rfl rfl ?_
        refine EV.ifeq (t := 121) dX3_planFault_111 (by decide) (by omega) (fun c111 => ?_) (fun c111 => ?_)
        · skip
          refine EV.bipush dX3_planFault_121 (by decide) ?_
          refine EV.iret rfl dX3_planFault_123 ?_
          exact rQ (by rw [pfr_e hx, if_pos (by omega)])
        · skip
          refine EV.aload_n (i := 0) dX3_planFault_114 rfl rfl ?_
          refine EV.getf fl_X3_15 dX3_planFault_115 g12 rfl ?_
          refine EV.goto (t := 123) dX3_planFault_118 (by decide) ?_
          refine EV.iret rfl dX3_planFault_123 ?_
          exact rQ (by rw [pfr_e hx, if_neg (by omega)])
      · skip
        have hsg := hK.2 k (by omega)
        refine EV.aload_n (i := 0) dX3_planFault_18 rfl rfl ?_
        refine EV.iload (i := 4) dX3_planFault_19 rfl ?_
        refine EV.callVr (M' := mX3_signAt) (as := [.int (zI ((k : Int)))]) (rest := []) ml_X3_23 im_X3_signAt se_X3_signAt rfl co_X3_signAt dX3_planFault_21 g12 (c_X3_signAt (d + 0) hA k (by omega)) rfl rfl (Nat.le_of_ble_eq_true rfl) ?_
        refine EV.istore (i := 5) (lv' := [some (.ref (A 12)), some (.int (zI ((w : Int)))), some (.int (zI (o))), some (.int (zI (t))), some (.int (zI ((k : Int)))), some (.int (zI (K.2 k))), none]) dX3_planFault_24 (by decide) rfl ?_
        refine EV.iload_n (i := 2) dX3_planFault_26 rfl rfl ?_
        refine EV.ifne (t := 62) dX3_planFault_27 (by decide) (by omega) (fun c27 => ?_) (fun c27 => ?_)
        · skip
          refine EV.iload (i := 5) dX3_planFault_62 rfl ?_
          refine EV.bipush dX3_planFault_64 (by decide) ?_
          refine EV.icmp_ne (t := 78) dX3_planFault_66 (by decide) (by omega) (fun c66 => ?_) (fun c66 => ?_)
          · skip
            refine EV.iload (i := 5) dX3_planFault_78 rfl ?_
            refine EV.bipush dX3_planFault_80 (by decide) ?_
            refine EV.isub dX3_planFault_82 ?_
            refine EV.istore (i := 6) (lv' := [some (.ref (A 12)), some (.int (zI ((w : Int)))), some (.int (zI (o))), some (.int (zI (t))), some (.int (zI ((k : Int)))), some (.int (zI (K.2 k))), some (.int (zI ((K.2 k - 48))))]) dX3_planFault_83 (by decide) rfl ?_
            refine EV.iload (i := 6) dX3_planFault_85 rfl ?_
            refine EV.iload_n (i := 3) dX3_planFault_87 rfl rfl ?_
            refine EV.icmp_le (t := 98) dX3_planFault_88 (by decide) (by omega) (fun c88 => ?_) (fun c88 => ?_)
            · skip
              refine EV.iload (i := 4) dX3_planFault_98 rfl ?_
              refine EV.iret rfl dX3_planFault_100 ?_
              exact rQ (pfr_n hx (by omega) (by obtain rfl : s = t := (by omega); exact pfn_5 (by omega) (by omega) (by omega)))
            · skip
              refine EV.iload (i := 6) dX3_planFault_91 rfl ?_
              refine EV.bipush dX3_planFault_93 (by decide) ?_
              refine EV.icmp_lt (t := 101) dX3_planFault_95 (by decide) (by omega) (fun c95 => ?_) (fun c95 => ?_)
              · skip
                refine EV.iload (i := 6) dX3_planFault_101 rfl ?_
                refine EV.istore_n (i := 3) (lv' := [some (.ref (A 12)), some (.int (zI ((w : Int)))), some (.int (zI (o))), some (.int (zI ((K.2 k - 48)))), some (.int (zI ((k : Int)))), some (.int (zI (K.2 k))), some (.int (zI ((K.2 k - 48))))]) dX3_planFault_103 rfl (by decide) rfl ?_
                refine EV.iinc (i := 4) (lv' := [some (.ref (A 12)), some (.int (zI ((w : Int)))), some (.int (zI (o))), some (.int (zI ((K.2 k - 48)))), some (.int (zI ((k : Int) + 1))), some (.int (zI (K.2 k))), some (.int (zI ((K.2 k - 48))))]) dX3_planFault_104 rfl (by decide) rfl ?_
                refine EV.goto (t := 9) dX3_planFault_107 (by decide) ?_
                refine EV.drop 5 (lv' := [some (.ref (A 12)), some (.int (zI ((w : Int)))), some (.int (zI (o))), some (.int (zI ((K.2 k - 48)))), some (.int (zI (((k : Int) + 1)))), none, some (.int (zI ((K.2 k - 48))))]) rfl ?_
                refine EV.drop 6 (lv' := [some (.ref (A 12)), some (.int (zI ((w : Int)))), some (.int (zI (o))), some (.int (zI ((K.2 k - 48)))), some (.int (zI (((k : Int) + 1)))), none, none]) rfl ?_
                exact ih9 (k + 1) w _ _ (K.2 k - 48) _ _ (by omega) (by omega) (Or.inr ⟨by omega, rfl, by omega, by omega⟩) (by omega) (pfr_y hx (by omega) (by obtain rfl : s = t := (by omega); exact pfn_4 (by omega) (by omega) (by omega))) (by omega) (by rfl) (by rfl)
              · skip
                refine EV.iload (i := 4) dX3_planFault_98 rfl ?_
                refine EV.iret rfl dX3_planFault_100 ?_
                exact rQ (pfr_n hx (by omega) (by obtain rfl : s = t := (by omega); exact pfn_5 (by omega) (by omega) (by omega)))
          · skip
            refine EV.iload_n (i := 3) dX3_planFault_69 rfl rfl ?_
            refine EV.iflt (t := 78) dX3_planFault_70 (by decide) (by omega) (fun c70 => ?_) (fun c70 => ?_)
            · skip
              refine EV.iload (i := 5) dX3_planFault_78 rfl ?_
              refine EV.bipush dX3_planFault_80 (by decide) ?_
              refine EV.isub dX3_planFault_82 ?_
              refine EV.istore (i := 6) (lv' := [some (.ref (A 12)), some (.int (zI ((w : Int)))), some (.int (zI (o))), some (.int (zI (t))), some (.int (zI ((k : Int)))), some (.int (zI (K.2 k))), some (.int (zI ((K.2 k - 48))))]) dX3_planFault_83 (by decide) rfl ?_
              refine EV.iload (i := 6) dX3_planFault_85 rfl ?_
              refine EV.iload_n (i := 3) dX3_planFault_87 rfl rfl ?_
              refine EV.icmp_le (t := 98) dX3_planFault_88 (by decide) (by omega) (fun c88 => ?_) (fun c88 => ?_)
              · skip
                refine EV.iload (i := 4) dX3_planFault_98 rfl ?_
                refine EV.iret rfl dX3_planFault_100 ?_
                exact rQ (pfr_n hx (by omega) (by obtain rfl : s = t := (by omega); exact pfn_5 (by omega) (by omega) (by omega)))
              · skip
                refine EV.iload (i := 6) dX3_planFault_91 rfl ?_
                refine EV.bipush dX3_planFault_93 (by decide) ?_
                refine EV.icmp_lt (t := 101) dX3_planFault_95 (by decide) (by omega) (fun c95 => ?_) (fun c95 => ?_)
                · skip
                  refine EV.iload (i := 6) dX3_planFault_101 rfl ?_
                  refine EV.istore_n (i := 3) (lv' := [some (.ref (A 12)), some (.int (zI ((w : Int)))), some (.int (zI (o))), some (.int (zI ((K.2 k - 48)))), some (.int (zI ((k : Int)))), some (.int (zI (K.2 k))), some (.int (zI ((K.2 k - 48))))]) dX3_planFault_103 rfl (by decide) rfl ?_
                  refine EV.iinc (i := 4) (lv' := [some (.ref (A 12)), some (.int (zI ((w : Int)))), some (.int (zI (o))), some (.int (zI ((K.2 k - 48)))), some (.int (zI ((k : Int) + 1))), some (.int (zI (K.2 k))), some (.int (zI ((K.2 k - 48))))]) dX3_planFault_104 rfl (by decide) rfl ?_
                  refine EV.goto (t := 9) dX3_planFault_107 (by decide) ?_
                  refine EV.drop 5 (lv' := [some (.ref (A 12)), some (.int (zI ((w : Int)))), some (.int (zI (o))), some (.int (zI ((K.2 k - 48)))), some (.int (zI (((k : Int) + 1)))), none, some (.int (zI ((K.2 k - 48))))]) rfl ?_
                  refine EV.drop 6 (lv' := [some (.ref (A 12)), some (.int (zI ((w : Int)))), some (.int (zI (o))), some (.int (zI ((K.2 k - 48)))), some (.int (zI (((k : Int) + 1)))), none, none]) rfl ?_
                  exact ih9 (k + 1) w _ _ (K.2 k - 48) _ _ (by omega) (by omega) (Or.inr ⟨by omega, rfl, by omega, by omega⟩) (by omega) (pfr_y hx (by omega) (by obtain rfl : s = t := (by omega); exact pfn_4 (by omega) (by omega) (by omega))) (by omega) (by rfl) (by rfl)
                · skip
                  refine EV.iload (i := 4) dX3_planFault_98 rfl ?_
                  refine EV.iret rfl dX3_planFault_100 ?_
                  exact rQ (pfr_n hx (by omega) (by obtain rfl : s = t := (by omega); exact pfn_5 (by omega) (by omega) (by omega)))
            · skip
              refine EV.iconst dX3_planFault_73 ?_
              refine EV.istore_n (i := 2) (lv' := [some (.ref (A 12)), some (.int (zI ((w : Int)))), some (.int (zI (0))), some (.int (zI (t))), some (.int (zI ((k : Int)))), some (.int (zI (K.2 k))), none]) dX3_planFault_74 rfl (by decide) rfl ?_
              refine EV.goto (t := 104) dX3_planFault_75 (by decide) ?_
              refine EV.iinc (i := 4) (lv' := [some (.ref (A 12)), some (.int (zI ((w : Int)))), some (.int (zI (0))), some (.int (zI (t))), some (.int (zI ((k : Int) + 1))), some (.int (zI (K.2 k))), none]) dX3_planFault_104 rfl (by decide) rfl ?_
              refine EV.goto (t := 9) dX3_planFault_107 (by decide) ?_
              refine EV.drop 5 (lv' := [some (.ref (A 12)), some (.int (zI ((w : Int)))), some (.int (zI (0))), some (.int (zI (t))), some (.int (zI (((k : Int) + 1)))), none, none]) rfl ?_
              exact ih9 (k + 1) w _ _ (-2) _ _ (by omega) (by omega) (Or.inl ⟨rfl, rfl⟩) (by omega) (pfr_y hx (by omega) (by obtain rfl : s = t := (by omega); exact pfn_3 (by omega) (by omega))) (by omega) (by rfl) (by rfl)
        · skip
          refine EV.iload (i := 5) dX3_planFault_30 rfl ?_
          refine EV.bipush dX3_planFault_32 (by decide) ?_
          refine EV.isub dX3_planFault_34 ?_
          refine EV.bipush dX3_planFault_35 (by decide) ?_
          refine EV.callSNr (M' := mX6_isOneOf) (as := [.int (zI ((K.2 k - 97))), .int (zI (8))]) (rest := []) (host := RX6) (by decide) sm_X6_isOneOf co_X6_isOneOf dX3_planFault_37 (c_X6_isOneOf (d + 1) (K.2 k - 97) 8 (by omega) (by omega)) rfl rfl (Nat.le_of_ble_eq_true rfl) ?_
          refine EV.ifeqB (t := 49) dX3_planFault_40 (by decide) (fun c40 => ?_) (fun c40 => ?_)
          · skip
            have c40r := of_nrg c40
            refine EV.iload (i := 4) dX3_planFault_49 rfl ?_
            refine EV.iret rfl dX3_planFault_51 ?_
            exact rQ (pfr_n hx (by omega) (by obtain rfl : s = -2 := (by omega); exact pfn_2 (by omega)))
          · skip
            have c40r := of_rg c40
            refine EV.iload_n (i := 1) dX3_planFault_43 rfl rfl ?_
            refine EV.bipush dX3_planFault_44 (by decide) ?_
            refine EV.icmp_ne (t := 52) dX3_planFault_46 (by decide) (by omega) (fun c46 => ?_) (fun c46 => ?_)
            · skip
              refine EV.iinc (i := 1) (lv' := [some (.ref (A 12)), some (.int (zI ((w : Int) + 1))), some (.int (zI (o))), some (.int (zI (t))), some (.int (zI ((k : Int)))), some (.int (zI (K.2 k))), none]) dX3_planFault_52 rfl (by decide) rfl ?_
              refine EV.iconst dX3_planFault_55 ?_
              refine EV.istore_n (i := 2) (lv' := [some (.ref (A 12)), some (.int (zI (((w : Int) + 1)))), some (.int (zI (1))), some (.int (zI (t))), some (.int (zI ((k : Int)))), some (.int (zI (K.2 k))), none]) dX3_planFault_56 rfl (by decide) rfl ?_
              refine EV.iconst dX3_planFault_57 ?_
              refine EV.istore_n (i := 3) (lv' := [some (.ref (A 12)), some (.int (zI (((w : Int) + 1)))), some (.int (zI (1))), some (.int (zI ((-1)))), some (.int (zI ((k : Int)))), some (.int (zI (K.2 k))), none]) dX3_planFault_58 rfl (by decide) rfl ?_
              refine EV.goto (t := 104) dX3_planFault_59 (by decide) ?_
              refine EV.iinc (i := 4) (lv' := [some (.ref (A 12)), some (.int (zI (((w : Int) + 1)))), some (.int (zI (1))), some (.int (zI ((-1)))), some (.int (zI ((k : Int) + 1))), some (.int (zI (K.2 k))), none]) dX3_planFault_104 rfl (by decide) rfl ?_
              refine EV.goto (t := 9) dX3_planFault_107 (by decide) ?_
              refine EV.drop 5 (lv' := [some (.ref (A 12)), some (.int (zI (((w : Int) + 1)))), some (.int (zI (1))), some (.int (zI ((-1)))), some (.int (zI (((k : Int) + 1)))), none, none]) rfl ?_
              exact ih9 (k + 1) (w + 1) _ _ (-1) _ _ (by omega) (by omega) (Or.inr ⟨rfl, rfl, by omega, by omega⟩) (by omega) (pfr_y hx (by omega) (by obtain rfl : s = -2 := (by omega); exact pfn_1 (by omega) (by omega))) (by omega) (by rfl) (by rfl)
            · skip
              refine EV.iload (i := 4) dX3_planFault_49 rfl ?_
              refine EV.iret rfl dX3_planFault_51 ?_
              exact rQ (pfr_n hx (by omega) (by obtain rfl : s = -2 := (by omega); exact pfn_2 (by omega)))
  exact L9 _ 0 0 _ _ (-2) _ _ (by omega) (by omega) (Or.inl ⟨rfl, rfl⟩) (by omega) (rfl) (Nat.lt_succ_self _) (by rfl) (by rfl)
end
