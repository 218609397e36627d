section
variable {G : GG} {l : Launch}
set_option maxHeartbeats 4000000 in
set_option maxRecDepth 20000 in
theorem c_X0_isThere (d : Nat) {h : Hp} {F : FK} {f b s o v : Nat} {V : Nat → Int} (hF : FolkAt G h F f b s o v V) (hW : WF F) (z : Int) (hz : inR z) : CT G l mX0_isThere (d + 2) 0 0 [.ref f, .int (zI (z))] h (RQ h (bI (thI F z))) := by
  refine CT.of (by decide) (Nat.le_of_ble_eq_true rfl) (List.forall_mem_cons.mpr ⟨rfl, List.forall_mem_cons.mpr ⟨rfl, fun _ h => absurd h List.not_mem_nil⟩⟩) ?_
  refine EV.lvs (lv' := [some (.ref f), some (.int (zI (z)))]) rfl ?_
  have ⟨hcf, hcb, hcs, hco, hcv⟩ := hF
  have hth := hW.1
  refine EV.iload_n (i := 1) dX0_isThere_0 rfl rfl ?_
  refine EV.bipush dX0_isThere_1 (by decide) ?_
  refine EV.callSNr (M' := mX6_isOneOf) (as := [.int (zI (z)), .int (zI (6))]) (rest := []) (host := RX6) (by decide) sm_X6_isOneOf co_X6_isOneOf dX0_isThere_3 (c_X6_isOneOf (d + 0) z 6 (by omega) (by omega)) rfl rfl (Nat.le_of_ble_eq_true rfl) ?_
  refine EV.ifeqB (t := 25) dX0_isThere_6 (by decide) (fun c6 => ?_) (fun c6 => ?_)
  · skip
    have c6r := of_nrg c6
    refine EV.iconst dX0_isThere_25 ?_
    refine EV.zret rfl (by decide) dX0_isThere_26 ?_
    exact rQ (bI_f (thI_f1 (by omega)))
  · skip
    have c6r := of_rg c6
    refine EV.aload_n (i := 0) dX0_isThere_9 rfl rfl ?_
    refine EV.getf fl_X0_24 dX0_isThere_10 hcf rfl ?_
    obtain ⟨p, rfl⟩ : ∃ p : Nat, z = (p : Int) := ⟨z.toNat, by omega⟩
    refine EV.iload_n (i := 1) dX0_isThere_13 rfl rfl ?_
    refine EV.ishrW dX0_isThere_14 ?_
    refine EV.iconst dX0_isThere_15 ?_
    refine EV.iandW dX0_isThere_16 ?_
    refine EV.top (y := zI (bI (F.1.testBit p))) (zI_bit (by omega) (by omega)) ?_
    refine EV.iconst dX0_isThere_17 ?_
    refine EV.icmp_ne (t := 25) dX0_isThere_18 (by decide) (bI_r1 _) (fun c18 => ?_) (fun c18 => ?_)
    · skip
      have c18 := bI_ne1 c18
      refine EV.iconst dX0_isThere_25 ?_
      refine EV.zret rfl (by decide) dX0_isThere_26 ?_
      exact rQ (bI_f ((thI_n F (by omega)).trans c18))
    · skip
      have c18 := bI_eq1 c18
      refine EV.iconst dX0_isThere_21 ?_
      refine EV.goto (t := 26) dX0_isThere_22 (by decide) ?_
      refine EV.zret rfl (by decide) dX0_isThere_26 ?_
      exact rQ (bI_t ((thI_n F (by omega)).trans c18))
set_option maxHeartbeats 4000000 in
set_option maxRecDepth 20000 in
theorem c_X0_birthOf (d : Nat) {h : Hp} {F : FK} {f b s o v : Nat} {V : Nat → Int} (hF : FolkAt G h F f b s o v V) (hW : WF F) (p : Nat) (hp : p < 6) : CT G l mX0_birthOf (d + 2) 0 0 [.ref f, .int (zI ((p : Int)))] h (RQ h (F.2.1 p)) := by
  refine CT.of (by decide) (Nat.le_of_ble_eq_true rfl) (List.forall_mem_cons.mpr ⟨rfl, List.forall_mem_cons.mpr ⟨rfl, fun _ h => absurd h List.not_mem_nil⟩⟩) ?_
  refine EV.lvs (lv' := [some (.ref f), some (.int (zI ((p : Int))))]) rfl ?_
  have ⟨hcf, hcb, hcs, hco, hcv⟩ := hF
  have hth := hW.1
  refine EV.iload_n (i := 1) dX0_birthOf_0 rfl rfl ?_
  refine EV.bipush dX0_birthOf_1 (by decide) ?_
  refine EV.callSNr (M' := mX6_isOneOf) (as := [.int (zI ((p : Int))), .int (zI (6))]) (rest := []) (host := RX6) (by decide) sm_X6_isOneOf co_X6_isOneOf dX0_birthOf_3 (c_X6_isOneOf (d + 0) (p : Int) 6 (by omega) (by omega)) rfl rfl (Nat.le_of_ble_eq_true rfl) ?_
  refine EV.ifeqB (t := 18) dX0_birthOf_6 (by decide) (fun c6 => ?_) (fun c6 => ?_)
  · skip
    have c6r := of_nrg c6
    omega
  · skip
    have c6r := of_rg c6
    refine EV.aload_n (i := 0) dX0_birthOf_9 rfl rfl ?_
    refine EV.getf fl_X0_9 dX0_birthOf_10 hcf rfl ?_
    refine EV.iload_n (i := 1) dX0_birthOf_13 rfl rfl ?_
    refine EV.iald dX0_birthOf_14 hcb (p) (rfl) (by omega) ?_
    refine EV.goto (t := 19) dX0_birthOf_15 (by decide) ?_
    refine EV.iret rfl dX0_birthOf_19 ?_
    exact rQ rfl
set_option maxHeartbeats 4000000 in
set_option maxRecDepth 20000 in
theorem c_X0_sizeOf (d : Nat) {h : Hp} {F : FK} {f b s o v : Nat} {V : Nat → Int} (hF : FolkAt G h F f b s o v V) (hW : WF F) (p : Nat) (hp : p < 6) : CT G l mX0_sizeOf (d + 2) 0 0 [.ref f, .int (zI ((p : Int)))] h (RQ h (F.2.2.1 p)) := by
  refine CT.of (by decide) (Nat.le_of_ble_eq_true rfl) (List.forall_mem_cons.mpr ⟨rfl, List.forall_mem_cons.mpr ⟨rfl, fun _ h => absurd h List.not_mem_nil⟩⟩) ?_
  refine EV.lvs (lv' := [some (.ref f), some (.int (zI ((p : Int))))]) rfl ?_
  have ⟨hcf, hcb, hcs, hco, hcv⟩ := hF
  have hth := hW.1
  refine EV.iload_n (i := 1) dX0_sizeOf_0 rfl rfl ?_
  refine EV.bipush dX0_sizeOf_1 (by decide) ?_
  refine EV.callSNr (M' := mX6_isOneOf) (as := [.int (zI ((p : Int))), .int (zI (6))]) (rest := []) (host := RX6) (by decide) sm_X6_isOneOf co_X6_isOneOf dX0_sizeOf_3 (c_X6_isOneOf (d + 0) (p : Int) 6 (by omega) (by omega)) rfl rfl (Nat.le_of_ble_eq_true rfl) ?_
  refine EV.ifeqB (t := 18) dX0_sizeOf_6 (by decide) (fun c6 => ?_) (fun c6 => ?_)
  · skip
    have c6r := of_nrg c6
    omega
  · skip
    have c6r := of_rg c6
    refine EV.aload_n (i := 0) dX0_sizeOf_9 rfl rfl ?_
    refine EV.getf fl_X0_15 dX0_sizeOf_10 hcf rfl ?_
    refine EV.iload_n (i := 1) dX0_sizeOf_13 rfl rfl ?_
    refine EV.iald dX0_sizeOf_14 hcs (p) (rfl) (by omega) ?_
    refine EV.goto (t := 19) dX0_sizeOf_15 (by decide) ?_
    refine EV.iret rfl dX0_sizeOf_19 ?_
    exact rQ rfl
set_option maxHeartbeats 4000000 in
set_option maxRecDepth 20000 in
theorem c_X0_dayAt (d : Nat) {h : Hp} {F : FK} {f b s o v : Nat} {V : Nat → Int} (hF : FolkAt G h F f b s o v V) (hW : WF F) (p k : Nat) (hp : p < 6 ∧ k < 8) : CT G l mX0_dayAt (d + 2) 0 0 [.ref f, .int (zI ((p : Int))), .int (zI ((k : Int)))] h (RQ h (F.2.2.2 (8 * p + k))) := by
  refine CT.of (by decide) (Nat.le_of_ble_eq_true rfl) (List.forall_mem_cons.mpr ⟨rfl, List.forall_mem_cons.mpr ⟨rfl, List.forall_mem_cons.mpr ⟨rfl, fun _ h => absurd h List.not_mem_nil⟩⟩⟩) ?_
  refine EV.lvs (lv' := [some (.ref f), some (.int (zI ((p : Int)))), some (.int (zI ((k : Int))))]) rfl ?_
  have ⟨hcf, hcb, hcs, hco, hcv⟩ := hF
  have hth := hW.1
  refine EV.iload_n (i := 1) dX0_dayAt_0 rfl rfl ?_
  refine EV.bipush dX0_dayAt_1 (by decide) ?_
  refine EV.callSNr (M' := mX6_isOneOf) (as := [.int (zI ((p : Int))), .int (zI (6))]) (rest := []) (host := RX6) (by decide) sm_X6_isOneOf co_X6_isOneOf dX0_dayAt_3 (c_X6_isOneOf (d + 0) (p : Int) 6 (by omega) (by omega)) rfl rfl (Nat.le_of_ble_eq_true rfl) ?_
  refine EV.ifeqB (t := 18) dX0_dayAt_6 (by decide) (fun c6 => ?_) (fun c6 => ?_)
  · skip
    have c6r := of_nrg c6
    omega
  · skip
    have c6r := of_rg c6
    refine EV.iload_n (i := 2) dX0_dayAt_9 rfl rfl ?_
    refine EV.bipush dX0_dayAt_10 (by decide) ?_
    refine EV.callSNr (M' := mX6_isOneOf) (as := [.int (zI ((k : Int))), .int (zI (8))]) (rest := []) (host := RX6) (by decide) sm_X6_isOneOf co_X6_isOneOf dX0_dayAt_12 (c_X6_isOneOf (d + 0) (k : Int) 8 (by omega) (by omega)) rfl rfl (Nat.le_of_ble_eq_true rfl) ?_
    refine EV.ifneB (t := 21) dX0_dayAt_15 (by decide) (fun c15 => ?_) (fun c15 => ?_)
    · skip
      have c15r := of_rg c15
      refine EV.aload_n (i := 0) dX0_dayAt_21 rfl rfl ?_
      refine EV.getf fl_X0_18 dX0_dayAt_22 hcf rfl ?_
      refine EV.iload_n (i := 1) dX0_dayAt_25 rfl rfl ?_
      refine EV.bipush dX0_dayAt_26 (by decide) ?_
      refine EV.imul dX0_dayAt_28 ?_
      refine EV.iload_n (i := 2) dX0_dayAt_29 rfl rfl ?_
      refine EV.iadd dX0_dayAt_30 ?_
      refine EV.iald dX0_dayAt_31 hco (8 * p + k) (by omega) (by omega) ?_
      refine EV.iret rfl dX0_dayAt_32 ?_
      exact rQ rfl
    · skip
      have c15r := of_nrg c15
      omega
set_option maxHeartbeats 4000000 in
set_option maxRecDepth 20000 in
theorem c_X0_dayOn (d : Nat) {h : Hp} {F : FK} {f b s o v : Nat} {V : Nat → Int} (hF : FolkAt G h F f b s o v V) (hW : WF F) (z t : Int) (hz : inR z) (ht : -1000000 ≤ t ∧ t ≤ 1000000) : CT G l mX0_dayOn (d + 2) 0 0 [.ref f, .int (zI (z)), .int (zI (t))] h (RQ h (dn F z t)) := by
  refine CT.of (by decide) (Nat.le_of_ble_eq_true rfl) (List.forall_mem_cons.mpr ⟨rfl, List.forall_mem_cons.mpr ⟨rfl, List.forall_mem_cons.mpr ⟨rfl, fun _ h => absurd h List.not_mem_nil⟩⟩⟩) ?_
  refine EV.lvs (lv' := [some (.ref f), some (.int (zI (z))), some (.int (zI (t))), none]) rfl ?_
  have ⟨hcf, hcb, hcs, hco, hcv⟩ := hF
  have hth := hW.1
  refine EV.iload_n (i := 1) dX0_dayOn_0 rfl rfl ?_
  refine EV.iflt (t := 21) dX0_dayOn_1 (by decide) (by omega) (fun c1 => ?_) (fun c1 => ?_)
  · skip
    refine EV.bipush dX0_dayOn_21 (by decide) ?_
    refine EV.iret rfl dX0_dayOn_23 ?_
    exact rQ (dn_0 (thI_f1 (by omega)) t).symm
  · skip
    refine EV.iload_n (i := 1) dX0_dayOn_4 rfl rfl ?_
    refine EV.bipush dX0_dayOn_5 (by decide) ?_
    refine EV.icmp_ge (t := 21) dX0_dayOn_7 (by decide) (by omega) (fun c7 => ?_) (fun c7 => ?_)
    · skip
      refine EV.bipush dX0_dayOn_21 (by decide) ?_
      refine EV.iret rfl dX0_dayOn_23 ?_
      exact rQ (dn_0 (thI_f1 (by omega)) t).symm
    · skip
      obtain ⟨p, rfl⟩ : ∃ p : Nat, z = (p : Int) := ⟨z.toNat, by omega⟩
      refine EV.aload_n (i := 0) dX0_dayOn_10 rfl rfl ?_
      refine EV.getf fl_X0_24 dX0_dayOn_11 hcf rfl ?_
      refine EV.iload_n (i := 1) dX0_dayOn_14 rfl rfl ?_
      refine EV.ishrW dX0_dayOn_15 ?_
      refine EV.iconst dX0_dayOn_16 ?_
      refine EV.iandW dX0_dayOn_17 ?_
      refine EV.top (y := zI (bI (F.1.testBit p))) (zI_bit (by omega) (by omega)) ?_
      refine EV.ifneB (t := 24) dX0_dayOn_18 (by decide) (fun c18 => ?_) (fun c18 => ?_)
      · skip
        obtain ⟨hB, hS, hO⟩ := hW.2 p (by omega) c18
        refine EV.aload_n (i := 0) dX0_dayOn_24 rfl rfl ?_
        refine EV.getf fl_X0_15 dX0_dayOn_25 hcf rfl ?_
        refine EV.iload_n (i := 1) dX0_dayOn_28 rfl rfl ?_
        refine EV.iald dX0_dayOn_29 hcs (p) (rfl) (by omega) ?_
        refine EV.istore_n (i := 3) (lv' := [some (.ref f), some (.int (zI ((p : Int)))), some (.int (zI (t))), some (.int (zI (F.2.2.1 p)))]) dX0_dayOn_30 rfl (by decide) rfl ?_
        refine EV.iload_n (i := 3) dX0_dayOn_31 rfl rfl ?_
        refine EV.iconst dX0_dayOn_32 ?_
        refine EV.icmp_lt (t := 42) dX0_dayOn_33 (by decide) (by omega) (fun c33 => ?_) (fun c33 => ?_)
        · skip
          omega
        · skip
          refine EV.iload_n (i := 3) dX0_dayOn_36 rfl rfl ?_
          refine EV.bipush dX0_dayOn_37 (by decide) ?_
          refine EV.icmp_le (t := 45) dX0_dayOn_39 (by decide) (by omega) (fun c39 => ?_) (fun c39 => ?_)
          · skip
            refine EV.aload_n (i := 0) dX0_dayOn_45 rfl rfl ?_
            refine EV.getf fl_X0_18 dX0_dayOn_46 hcf rfl ?_
            refine EV.iload_n (i := 1) dX0_dayOn_49 rfl rfl ?_
            refine EV.bipush dX0_dayOn_50 (by decide) ?_
            refine EV.imul dX0_dayOn_52 ?_
            refine EV.iload_n (i := 2) dX0_dayOn_53 rfl rfl ?_
            refine EV.aload_n (i := 0) dX0_dayOn_54 rfl rfl ?_
            refine EV.getf fl_X0_9 dX0_dayOn_55 hcf rfl ?_
            refine EV.iload_n (i := 1) dX0_dayOn_58 rfl rfl ?_
            refine EV.iald dX0_dayOn_59 hcb (p) (rfl) (by omega) ?_
            refine EV.isub dX0_dayOn_60 ?_
            refine EV.iload_n (i := 3) dX0_dayOn_61 rfl rfl ?_
            refine EV.callSr (M' := mJ9_floorMod_7cf53) (as := [.int (zI ((t - F.2.1 p))), .int (zI (F.2.2.1 p))]) (rest := [.int (zI (((p : Int) * 8))), .ref o]) ml_X0_47 sm_J9_floorMod_7cf53 co_J9_floorMod_7cf53 dX0_dayOn_62 (c_J9_floorMod_7cf53 (d + 0) (t - F.2.1 p) (F.2.2.1 p) (by omega) (by omega)) rfl rfl (Nat.le_of_ble_eq_true rfl) ?_
            have h4 := Int.emod_nonneg (t - F.2.1 p) (b := F.2.2.1 p) (by omega)
            have h5 := Int.emod_lt_of_pos (t - F.2.1 p) (b := F.2.2.1 p) (by omega)
            obtain ⟨r, hr⟩ : ∃ r : Nat, (t - F.2.1 p) % F.2.2.1 p = (r : Int) := ⟨_, (Int.toNat_of_nonneg h4).symm⟩
            refine EV.top (y := zI ((r : Int))) (by rw [hr]) ?_
            refine EV.iadd dX0_dayOn_65 ?_
            refine EV.iald dX0_dayOn_66 hco (8 * p + r) (by omega) (by omega) ?_
            refine EV.iret rfl dX0_dayOn_67 ?_
            exact rQ (by rw [dn_y (by omega) c18, dy, hr, Int.toNat_natCast])
          · skip
            omega
      · skip
        refine EV.bipush dX0_dayOn_21 (by decide) ?_
        refine EV.iret rfl dX0_dayOn_23 ?_
        exact rQ (dn_n (by omega) c18 t).symm
set_option maxHeartbeats 4000000 in
set_option maxRecDepth 20000 in
theorem c_X0_having (d : Nat) {h : Hp} {F : FK} {f b s o v : Nat} {V : Nat → Int} (hF : FolkAt G h F f b s o v V) (hW : WF F) (D t : Int) (hD : 0 ≤ D ∧ D ≤ 7) (ht : -1000000 ≤ t ∧ t ≤ 1000000) : CT G l mX0_having (d + 3) 0 0 [.ref f, .int (zI (D)), .int (zI (t))] h (RQ h ((hv F D t : Int))) := by
  refine CT.of (by decide) (Nat.le_of_ble_eq_true rfl) (List.forall_mem_cons.mpr ⟨rfl, List.forall_mem_cons.mpr ⟨rfl, List.forall_mem_cons.mpr ⟨rfl, fun _ h => absurd h List.not_mem_nil⟩⟩⟩) ?_
  refine EV.lvs (lv' := [some (.ref f), some (.int (zI (D))), some (.int (zI (t))), none, none]) rfl ?_
  have ⟨hcf, hcb, hcs, hco, hcv⟩ := hF
  have hth := hW.1
  refine EV.iconst dX0_having_0 ?_
  refine EV.istore_n (i := 3) (lv' := [some (.ref f), some (.int (zI (D))), some (.int (zI (t))), some (.int (zI (0))), none]) dX0_having_1 rfl (by decide) rfl ?_
  refine EV.iconst dX0_having_2 ?_
  refine EV.istore (i := 4) (lv' := [some (.ref f), some (.int (zI (D))), some (.int (zI (t))), some (.int (zI (0))), some (.int (zI (0)))]) dX0_having_3 (by decide) rfl ?_
  have L5 : ∀ (n5 : Nat) (p : Nat) (x3 x4 : Int), (p ≤ 6) → 6 - p < n5 → x3 = ((orb (hvB F D t) p : Nat) : Int) → x4 = (p : Int) → EV G l mX0_having (d + 3) (RQ h ((hv F D t : Int))) 5 [some (.ref f), some (.int (zI (D))), some (.int (zI (t))), some (.int (zI (x3))), some (.int (zI (x4)))] [] h 0 0 := by
    intro n5
    induction n5 with
    | zero => intro _ _ _ _ hm; exact absurd hm (Nat.not_lt_zero _)
    | succ n5 ih5 =>
      intro p x3 x4 hp hm5 e3 e4
      subst e3 e4
      refine EV.iload (i := 4) dX0_having_5 rfl ?_
      refine EV.bipush dX0_having_7 (by decide) ?_
      refine EV.icmp_ge (t := 36) dX0_having_9 (by decide) (by omega) (fun c9 => ?_) (fun c9 => ?_)
      · skip
        obtain rfl : p = 6 := by omega
        refine EV.iload_n (i := 3) dX0_having_36 rfl rfl ?_
        refine EV.iret rfl dX0_having_37 ?_
        exact rQ rfl
      · skip
        refine EV.aload_n (i := 0) dX0_having_12 rfl rfl ?_
        refine EV.iload (i := 4) dX0_having_13 rfl ?_
        refine EV.iload_n (i := 2) dX0_having_15 rfl rfl ?_
        refine EV.callVr (M' := mX0_dayOn) (as := [.int (zI ((p : Int))), .int (zI (t))]) (rest := []) ml_X0_53 im_X0_dayOn se_X0_dayOn rfl co_X0_dayOn dX0_having_16 hcf (c_X0_dayOn (d + 0) hF hW (p : Int) t (by omega) (by omega)) rfl rfl (Nat.le_of_ble_eq_true rfl) ?_
        have hdb := hW.dnr (p : Int) t
        refine EV.iload_n (i := 1) dX0_having_19 rfl rfl ?_
        refine EV.icmp_ne (t := 30) dX0_having_20 (by decide) (by omega) (fun c20 => ?_) (fun c20 => ?_)
        · skip
          refine EV.iinc (i := 4) (lv' := [some (.ref f), some (.int (zI (D))), some (.int (zI (t))), some (.int (zI (((orb (hvB F D t) p : Nat) : Int)))), some (.int (zI ((p : Int) + 1)))]) dX0_having_30 rfl (by decide) rfl ?_
          refine EV.goto (t := 5) dX0_having_33 (by decide) ?_
          exact ih5 (p + 1) _ _ (by omega) (by omega) (orb_no (hvB_f (by omega) c20)) (by rfl)
        · skip
          refine EV.iload_n (i := 3) dX0_having_23 rfl rfl ?_
          refine EV.iconst dX0_having_24 ?_
          refine EV.iload (i := 4) dX0_having_25 rfl ?_
          refine EV.ishlW dX0_having_27 ?_
          refine EV.iorW dX0_having_28 ?_
          refine EV.top (y := zI (((orb (hvB F D t) (p + 1) : Nat) : Int))) (zI_orb (by omega) (hvB_t (by omega) hD.1 c20)) ?_
          refine EV.istore_n (i := 3) (lv' := [some (.ref f), some (.int (zI (D))), some (.int (zI (t))), some (.int (zI (((orb (hvB F D t) (p + 1) : Nat) : Int)))), some (.int (zI ((p : Int))))]) dX0_having_29 rfl (by decide) rfl ?_
          refine EV.iinc (i := 4) (lv' := [some (.ref f), some (.int (zI (D))), some (.int (zI (t))), some (.int (zI (((orb (hvB F D t) (p + 1) : Nat) : Int)))), some (.int (zI ((p : Int) + 1)))]) dX0_having_30 rfl (by decide) rfl ?_
          refine EV.goto (t := 5) dX0_having_33 (by decide) ?_
          exact ih5 (p + 1) _ _ (by omega) (by omega) (by rfl) (by rfl)
  exact L5 _ 0 _ _ (by omega) (Nat.lt_succ_self _) (by rfl) (by rfl)
set_option maxHeartbeats 4000000 in
set_option maxRecDepth 20000 in
theorem c_X0_commonDay (d : Nat) {h : Hp} {F : FK} {f b s o v : Nat} {V : Nat → Int} (hF : FolkAt G h F f b s o v V) (hW : WF F) (a : Nat) (t : Int) (ha : a < 64) (hs : ∃ q, q < 6 ∧ a.testBit q = true) (hsub : ∀ q, q < 6 → a.testBit q = true → F.1.testBit q = true) (ht : -1000000 ≤ t ∧ t ≤ 1000000) : CT G l mX0_commonDay (d + 3) 0 0 [.ref f, .int (zI ((a : Int))), .int (zI (t))] h (RQ h (cd F a t)) := by
  refine CT.of (by decide) (Nat.le_of_ble_eq_true rfl) (List.forall_mem_cons.mpr ⟨rfl, List.forall_mem_cons.mpr ⟨rfl, List.forall_mem_cons.mpr ⟨rfl, fun _ h => absurd h List.not_mem_nil⟩⟩⟩) ?_
  refine EV.lvs (lv' := [some (.ref f), some (.int (zI ((a : Int)))), some (.int (zI (t))), none, none, none]) rfl ?_
  have ⟨hcf, hcb, hcs, hco, hcv⟩ := hF
  have hth := hW.1
  refine EV.bipush dX0_commonDay_0 (by decide) ?_
  refine EV.istore_n (i := 3) (lv' := [some (.ref f), some (.int (zI ((a : Int)))), some (.int (zI (t))), some (.int (zI ((-6)))), none, none]) dX0_commonDay_2 rfl (by decide) rfl ?_
  refine EV.iconst dX0_commonDay_3 ?_
  refine EV.istore (i := 4) (lv' := [some (.ref f), some (.int (zI ((a : Int)))), some (.int (zI (t))), some (.int (zI ((-6)))), some (.int (zI (0))), none]) dX0_commonDay_4 (by decide) rfl ?_
  have L6 : ∀ (n6 : Nat) (p : Nat) (x : Int) (x4 : Int), (p ≤ 6) → (cpre F a t x p) → 6 - p < n6 → x4 = (p : Int) → EV G l mX0_commonDay (d + 3) (RQ h (cd F a t)) 6 [some (.ref f), some (.int (zI ((a : Int)))), some (.int (zI (t))), some (.int (zI (x))), some (.int (zI (x4))), none] [] h 0 0 := by
    intro n6
    induction n6 with
    | zero => intro _ _ _ _ _ hm; exact absurd hm (Nat.not_lt_zero _)
    | succ n6 ih6 =>
      intro p x x4 hp hx hm6 e4
      subst e4
      have hxb := cpre_in hx
      refine EV.iload (i := 4) dX0_commonDay_6 rfl ?_
      refine EV.bipush dX0_commonDay_8 (by decide) ?_
      refine EV.icmp_ge (t := 56) dX0_commonDay_10 (by decide) (by omega) (fun c10 => ?_) (fun c10 => ?_)
      · skip
        obtain rfl : p = 6 := by omega
        refine EV.iload_n (i := 3) dX0_commonDay_56 rfl rfl ?_
        refine EV.iret rfl dX0_commonDay_57 ?_
        exact rQ (cpre_end hx hs)
      · skip
        refine EV.iload_n (i := 1) dX0_commonDay_13 rfl rfl ?_
        refine EV.iload (i := 4) dX0_commonDay_14 rfl ?_
        refine EV.ishrW dX0_commonDay_16 ?_
        refine EV.iconst dX0_commonDay_17 ?_
        refine EV.iandW dX0_commonDay_18 ?_
        refine EV.top (y := zI (bI (a.testBit p))) (zI_bit (by omega) (by omega)) ?_
        refine EV.iconst dX0_commonDay_19 ?_
        refine EV.icmp_ne (t := 50) dX0_commonDay_20 (by decide) (bI_r1 _) (fun c20 => ?_) (fun c20 => ?_)
        · skip
          have c20 := bI_ne1 c20
          refine EV.iinc (i := 4) (lv' := [some (.ref f), some (.int (zI ((a : Int)))), some (.int (zI (t))), some (.int (zI (x))), some (.int (zI ((p : Int) + 1))), none]) dX0_commonDay_50 rfl (by decide) rfl ?_
          refine EV.goto (t := 6) dX0_commonDay_53 (by decide) ?_
          exact ih6 (p + 1) _ _ (by omega) (cpre_skip hx c20) (by omega) (by rfl)
        · skip
          have c20 := bI_eq1 c20
          refine EV.aload_n (i := 0) dX0_commonDay_23 rfl rfl ?_
          refine EV.iload (i := 4) dX0_commonDay_24 rfl ?_
          refine EV.iload_n (i := 2) dX0_commonDay_26 rfl rfl ?_
          refine EV.callVr (M' := mX0_dayOn) (as := [.int (zI ((p : Int))), .int (zI (t))]) (rest := []) ml_X0_53 im_X0_dayOn se_X0_dayOn rfl co_X0_dayOn dX0_commonDay_27 hcf (c_X0_dayOn (d + 0) hF hW (p : Int) t (by omega) (by omega)) rfl rfl (Nat.le_of_ble_eq_true rfl) ?_
          have hdb := hW.dnr (p : Int) t
          have htt := hsub p (by omega) c20
          have hy := dn_y (by omega) htt t
          have hr : 0 ≤ dn F (p : Int) t ∧ dn F (p : Int) t ≤ 7 := by rw [hy]; exact hW.dy (by omega) htt t
          refine EV.istore (i := 5) (lv' := [some (.ref f), some (.int (zI ((a : Int)))), some (.int (zI (t))), some (.int (zI (x))), some (.int (zI ((p : Int)))), some (.int (zI (dn F (p : Int) t)))]) dX0_commonDay_30 (by decide) rfl ?_
          refine EV.iload_n (i := 3) dX0_commonDay_32 rfl rfl ?_
          refine EV.bipush dX0_commonDay_33 (by decide) ?_
          refine EV.icmp_eq (t := 47) dX0_commonDay_35 (by decide) (by omega) (fun c35 => ?_) (fun c35 => ?_)
          · skip
            refine EV.iload (i := 5) dX0_commonDay_47 rfl ?_
            refine EV.istore_n (i := 3) (lv' := [some (.ref f), some (.int (zI ((a : Int)))), some (.int (zI (t))), some (.int (zI (dn F (p : Int) t))), some (.int (zI ((p : Int)))), some (.int (zI (dn F (p : Int) t)))]) dX0_commonDay_49 rfl (by decide) rfl ?_
            refine EV.iinc (i := 4) (lv' := [some (.ref f), some (.int (zI ((a : Int)))), some (.int (zI (t))), some (.int (zI (dn F (p : Int) t))), some (.int (zI ((p : Int) + 1))), some (.int (zI (dn F (p : Int) t)))]) dX0_commonDay_50 rfl (by decide) rfl ?_
            refine EV.goto (t := 6) dX0_commonDay_53 (by decide) ?_
            refine EV.drop 5 (lv' := [some (.ref f), some (.int (zI ((a : Int)))), some (.int (zI (t))), some (.int (zI (dn F (p : Int) t))), some (.int (zI (((p : Int) + 1)))), none]) rfl ?_
            exact ih6 (p + 1) _ _ (by omega) (cpre_add hx c20 htt hy hr (Or.inl c35)) (by omega) (by rfl)
          · skip
            refine EV.iload (i := 5) dX0_commonDay_38 rfl ?_
            refine EV.iload_n (i := 3) dX0_commonDay_40 rfl rfl ?_
            refine EV.icmp_eq (t := 47) dX0_commonDay_41 (by decide) (by omega) (fun c41 => ?_) (fun c41 => ?_)
            · skip
              refine EV.iload (i := 5) dX0_commonDay_47 rfl ?_
              refine EV.istore_n (i := 3) (lv' := [some (.ref f), some (.int (zI ((a : Int)))), some (.int (zI (t))), some (.int (zI (dn F (p : Int) t))), some (.int (zI ((p : Int)))), some (.int (zI (dn F (p : Int) t)))]) dX0_commonDay_49 rfl (by decide) rfl ?_
              refine EV.iinc (i := 4) (lv' := [some (.ref f), some (.int (zI ((a : Int)))), some (.int (zI (t))), some (.int (zI (dn F (p : Int) t))), some (.int (zI ((p : Int) + 1))), some (.int (zI (dn F (p : Int) t)))]) dX0_commonDay_50 rfl (by decide) rfl ?_
              refine EV.goto (t := 6) dX0_commonDay_53 (by decide) ?_
              refine EV.drop 5 (lv' := [some (.ref f), some (.int (zI ((a : Int)))), some (.int (zI (t))), some (.int (zI (dn F (p : Int) t))), some (.int (zI (((p : Int) + 1)))), none]) rfl ?_
              exact ih6 (p + 1) _ _ (by omega) (cpre_add hx c20 htt hy hr (Or.inr c41)) (by omega) (by rfl)
            · skip
              refine EV.bipush dX0_commonDay_44 (by decide) ?_
              refine EV.iret rfl dX0_commonDay_46 ?_
              exact rQ (cpre_bad hx (by omega) c20 hy c35 c41)
  exact L6 _ 0 _ _ (by omega) (cpre_0 _ _ _) (Nat.lt_succ_self _) (by rfl)
set_option maxHeartbeats 4000000 in
set_option maxRecDepth 20000 in
theorem c_X0_share (d : Nat) {h : Hp} {F : FK} {f b s o v : Nat} {V : Nat → Int} (hF : FolkAt G h F f b s o v V) (hW : WF F) (p q : Nat) (hp : p < 6) (hq : q < 6) (hbp : F.1.testBit p = true) (hbq : F.1.testBit q = true) (t : Int) (ht : -1000000 ≤ t ∧ t ≤ 1000000) : CT G l mX0_share (d + 3) 0 0 [.ref f, .int (zI ((p : Int))), .int (zI ((q : Int))), .int (zI (t))] h (RQ h (bI (decide (dy F p t = dy F q t)))) := by
  refine CT.of (by decide) (Nat.le_of_ble_eq_true rfl) (List.forall_mem_cons.mpr ⟨rfl, List.forall_mem_cons.mpr ⟨rfl, List.forall_mem_cons.mpr ⟨rfl, List.forall_mem_cons.mpr ⟨rfl, fun _ h => absurd h List.not_mem_nil⟩⟩⟩⟩) ?_
  refine EV.lvs (lv' := [some (.ref f), some (.int (zI ((p : Int)))), some (.int (zI ((q : Int)))), some (.int (zI (t)))]) rfl ?_
  have ⟨hcf, hcb, hcs, hco, hcv⟩ := hF
  have hth := hW.1
  refine EV.aload_n (i := 0) dX0_share_0 rfl rfl ?_
  refine EV.iload_n (i := 1) dX0_share_1 rfl rfl ?_
  refine EV.iload_n (i := 3) dX0_share_2 rfl rfl ?_
  refine EV.callVr (M' := mX0_dayOn) (as := [.int (zI ((p : Int))), .int (zI (t))]) (rest := []) ml_X0_53 im_X0_dayOn se_X0_dayOn rfl co_X0_dayOn dX0_share_3 hcf (c_X0_dayOn (d + 0) hF hW (p : Int) t (by omega) (by omega)) rfl rfl (Nat.le_of_ble_eq_true rfl) ?_
  refine EV.top (y := zI (dy F p t)) (by rw [dn_y hp hbp]) ?_
  have hr1 := hW.dy hp hbp t
  refine EV.aload_n (i := 0) dX0_share_6 rfl rfl ?_
  refine EV.iload_n (i := 2) dX0_share_7 rfl rfl ?_
  refine EV.iload_n (i := 3) dX0_share_8 rfl rfl ?_
  refine EV.callVr (M' := mX0_dayOn) (as := [.int (zI ((q : Int))), .int (zI (t))]) (rest := [.int (zI (dy F p t))]) ml_X0_53 im_X0_dayOn se_X0_dayOn rfl co_X0_dayOn dX0_share_9 hcf (c_X0_dayOn (d + 0) hF hW (q : Int) t (by omega) (by omega)) rfl rfl (Nat.le_of_ble_eq_true rfl) ?_
  refine EV.top (y := zI (dy F q t)) (by rw [dn_y hq hbq]) ?_
  have hr2 := hW.dy hq hbq t
  refine EV.icmp_ne (t := 19) dX0_share_12 (by decide) (by omega) (fun c12 => ?_) (fun c12 => ?_)
  · skip
    refine EV.iconst dX0_share_19 ?_
    refine EV.zret rfl (by decide) dX0_share_20 ?_
    exact rQ (bI_f (decide_eq_false c12))
  · skip
    refine EV.iconst dX0_share_15 ?_
    refine EV.goto (t := 20) dX0_share_16 (by decide) ?_
    refine EV.zret rfl (by decide) dX0_share_20 ?_
    exact rQ (bI_t (decide_eq_true c12))
set_option maxHeartbeats 4000000 in
set_option maxRecDepth 20000 in
theorem c_X0_sharedDates (d : Nat) {h : Hp} {F : FK} {f b s o v : Nat} {V : Nat → Int} (hF : FolkAt G h F f b s o v V) (hW : WF F) (p q : Nat) (hp : p < 6) (hq : q < 6) (hbp : F.1.testBit p = true) (hbq : F.1.testBit q = true) (N : Nat) (hN : N ≤ 1000) : CT G l mX0_sharedDates (d + 4) 0 0 [.ref f, .int (zI ((p : Int))), .int (zI ((q : Int))), .int (zI ((N : Int)))] h (RQ h ((shr F p q N : Int))) := by
  refine CT.of (by decide) (Nat.le_of_ble_eq_true rfl) (List.forall_mem_cons.mpr ⟨rfl, List.forall_mem_cons.mpr ⟨rfl, List.forall_mem_cons.mpr ⟨rfl, List.forall_mem_cons.mpr ⟨rfl, fun _ h => absurd h List.not_mem_nil⟩⟩⟩⟩) ?_
  refine EV.lvs (lv' := [some (.ref f), some (.int (zI ((p : Int)))), some (.int (zI ((q : Int)))), some (.int (zI ((N : Int)))), none, none]) rfl ?_
  have ⟨hcf, hcb, hcs, hco, hcv⟩ := hF
  have hth := hW.1
  refine EV.iconst dX0_sharedDates_0 ?_
  refine EV.istore (i := 4) (lv' := [some (.ref f), some (.int (zI ((p : Int)))), some (.int (zI ((q : Int)))), some (.int (zI ((N : Int)))), some (.int (zI (0))), none]) dX0_sharedDates_1 (by decide) rfl ?_
  refine EV.iconst dX0_sharedDates_3 ?_
  refine EV.istore (i := 5) (lv' := [some (.ref f), some (.int (zI ((p : Int)))), some (.int (zI ((q : Int)))), some (.int (zI ((N : Int)))), some (.int (zI (0))), some (.int (zI (0)))]) dX0_sharedDates_4 (by decide) rfl ?_
  have L6 : ∀ (n6 : Nat) (t : Nat) (x4 x5 : Int), (t ≤ N) → N - t < n6 → x4 = ((cnt (shB F p q) t : Nat) : Int) → x5 = (t : Int) → EV G l mX0_sharedDates (d + 4) (RQ h ((shr F p q N : Int))) 6 [some (.ref f), some (.int (zI ((p : Int)))), some (.int (zI ((q : Int)))), some (.int (zI ((N : Int)))), some (.int (zI (x4))), some (.int (zI (x5)))] [] h 0 0 := by
    intro n6
    induction n6 with
    | zero => intro _ _ _ _ hm; exact absurd hm (Nat.not_lt_zero _)
    | succ n6 ih6 =>
      intro t x4 x5 htN hm6 e4 e5
      subst e4 e5
      have hcl := cnt_le (shB F p q) t
      refine EV.iload (i := 5) dX0_sharedDates_6 rfl ?_
      refine EV.iload_n (i := 3) dX0_sharedDates_8 rfl rfl ?_
      refine EV.icmp_ge (t := 32) dX0_sharedDates_9 (by decide) (by omega) (fun c9 => ?_) (fun c9 => ?_)
      · skip
        obtain rfl : t = N := by omega
        refine EV.iload (i := 4) dX0_sharedDates_32 rfl ?_
        refine EV.iret rfl dX0_sharedDates_34 ?_
        exact rQ rfl
      · skip
        refine EV.aload_n (i := 0) dX0_sharedDates_12 rfl rfl ?_
        refine EV.iload_n (i := 1) dX0_sharedDates_13 rfl rfl ?_
        refine EV.iload_n (i := 2) dX0_sharedDates_14 rfl rfl ?_
        refine EV.iload (i := 5) dX0_sharedDates_15 rfl ?_
        refine EV.callVr (M' := mX0_share) (as := [.int (zI ((p : Int))), .int (zI ((q : Int))), .int (zI ((t : Int)))]) (rest := []) ml_X0_56 im_X0_share se_X0_share rfl co_X0_share dX0_sharedDates_17 hcf (c_X0_share (d + 0) hF hW p q hp hq hbp hbq (t : Int) (by omega)) rfl rfl (Nat.le_of_ble_eq_true rfl) ?_
        refine EV.ifeqB (t := 26) dX0_sharedDates_20 (by decide) (fun c20 => ?_) (fun c20 => ?_)
        · skip
          refine EV.iinc (i := 5) (lv' := [some (.ref f), some (.int (zI ((p : Int)))), some (.int (zI ((q : Int)))), some (.int (zI ((N : Int)))), some (.int (zI (((cnt (shB F p q) t : Nat) : Int)))), some (.int (zI ((t : Int) + 1)))]) dX0_sharedDates_26 rfl (by decide) rfl ?_
          refine EV.goto (t := 6) dX0_sharedDates_29 (by decide) ?_
          exact ih6 (t + 1) _ _ (by omega) (by omega) (cnt_n (f := shB F p q) c20) (by rfl)
        · skip
          refine EV.iinc (i := 4) (lv' := [some (.ref f), some (.int (zI ((p : Int)))), some (.int (zI ((q : Int)))), some (.int (zI ((N : Int)))), some (.int (zI (((cnt (shB F p q) t : Nat) : Int) + 1))), some (.int (zI ((t : Int))))]) dX0_sharedDates_23 rfl (by decide) rfl ?_
          refine EV.iinc (i := 5) (lv' := [some (.ref f), some (.int (zI ((p : Int)))), some (.int (zI ((q : Int)))), some (.int (zI ((N : Int)))), some (.int (zI ((((cnt (shB F p q) t : Nat) : Int) + 1)))), some (.int (zI ((t : Int) + 1)))]) dX0_sharedDates_26 rfl (by decide) rfl ?_
          refine EV.goto (t := 6) dX0_sharedDates_29 (by decide) ?_
          exact ih6 (t + 1) _ _ (by omega) (by omega) (cnt_y (f := shB F p q) c20) (by rfl)
  exact L6 _ 0 _ _ (by omega) (Nat.lt_succ_self _) (by rfl) (by rfl)
set_option maxHeartbeats 4000000 in
set_option maxRecDepth 20000 in
theorem c_X0_everShare (d : Nat) {h : Hp} {F : FK} {f b s o v : Nat} {V : Nat → Int} (hF : FolkAt G h F f b s o v V) (hW : WF F) (p q : Nat) (hp : p < 6) (hq : q < 6) (hbp : F.1.testBit p = true) (hbq : F.1.testBit q = true) : CT G l mX0_everShare (d + 4) 0 0 [.ref f, .int (zI ((p : Int))), .int (zI ((q : Int)))] h (RQ h (bI (exn (shB F p q) 840))) := by
  refine CT.of (by decide) (Nat.le_of_ble_eq_true rfl) (List.forall_mem_cons.mpr ⟨rfl, List.forall_mem_cons.mpr ⟨rfl, List.forall_mem_cons.mpr ⟨rfl, fun _ h => absurd h List.not_mem_nil⟩⟩⟩) ?_
  refine EV.lvs (lv' := [some (.ref f), some (.int (zI ((p : Int)))), some (.int (zI ((q : Int)))), none]) rfl ?_
  have ⟨hcf, hcb, hcs, hco, hcv⟩ := hF
  have hth := hW.1
  refine EV.iconst dX0_everShare_0 ?_
  refine EV.istore_n (i := 3) (lv' := [some (.ref f), some (.int (zI ((p : Int)))), some (.int (zI ((q : Int)))), some (.int (zI (0)))]) dX0_everShare_1 rfl (by decide) rfl ?_
  have L2 : ∀ (n2 : Nat) (t : Nat) (x3 : Int), (t ≤ 840) → (∀ i, i < t → shB F p q i = false) → 840 - t < n2 → x3 = (t : Int) → EV G l mX0_everShare (d + 4) (RQ h (bI (exn (shB F p q) 840))) 2 [some (.ref f), some (.int (zI ((p : Int)))), some (.int (zI ((q : Int)))), some (.int (zI (x3)))] [] h 0 0 := by
    intro n2
    induction n2 with
    | zero => intro _ _ _ _ hm; exact absurd hm (Nat.not_lt_zero _)
    | succ n2 ih2 =>
      intro t x3 htN hno hm2 e3
      subst e3
      refine EV.iload_n (i := 3) dX0_everShare_2 rfl rfl ?_
      refine EV.sipush dX0_everShare_3 (by decide) ?_
      refine EV.icmp_ge (t := 27) dX0_everShare_6 (by decide) (by omega) (fun c6 => ?_) (fun c6 => ?_)
      · skip
        obtain rfl : t = 840 := by omega
        refine EV.iconst dX0_everShare_27 ?_
        refine EV.zret rfl (by decide) dX0_everShare_28 ?_
        exact rQ (bI_f (exn_f hno))
      · skip
        refine EV.aload_n (i := 0) dX0_everShare_9 rfl rfl ?_
        refine EV.iload_n (i := 1) dX0_everShare_10 rfl rfl ?_
        refine EV.iload_n (i := 2) dX0_everShare_11 rfl rfl ?_
        refine EV.iload_n (i := 3) dX0_everShare_12 rfl rfl ?_
        refine EV.callVr (M' := mX0_share) (as := [.int (zI ((p : Int))), .int (zI ((q : Int))), .int (zI ((t : Int)))]) (rest := []) ml_X0_56 im_X0_share se_X0_share rfl co_X0_share dX0_everShare_13 hcf (c_X0_share (d + 0) hF hW p q hp hq hbp hbq (t : Int) (by omega)) rfl rfl (Nat.le_of_ble_eq_true rfl) ?_
        refine EV.ifeqB (t := 21) dX0_everShare_16 (by decide) (fun c16 => ?_) (fun c16 => ?_)
        · skip
          refine EV.iinc (i := 3) (lv' := [some (.ref f), some (.int (zI ((p : Int)))), some (.int (zI ((q : Int)))), some (.int (zI ((t : Int) + 1)))]) dX0_everShare_21 rfl (by decide) rfl ?_
          refine EV.goto (t := 2) dX0_everShare_24 (by decide) ?_
          exact ih2 (t + 1) _ (by omega) (no_step (f := shB F p q) hno c16) (by omega) (by rfl)
        · skip
          refine EV.iconst dX0_everShare_19 ?_
          refine EV.zret rfl (by decide) dX0_everShare_20 ?_
          exact rQ (bI_t (exn_t (f := shB F p q) (i := t) (by omega) c16))
  exact L2 _ 0 _ (by omega) (no_0) (Nat.lt_succ_self _) (by rfl)
set_option maxHeartbeats 4000000 in
set_option maxRecDepth 20000 in
theorem c_X0_allHave (d : Nat) {h : Hp} {F : FK} {f b s o v : Nat} {V : Nat → Int} (hF : FolkAt G h F f b s o v V) (hW : WF F) (a : Nat) (D t : Int) (ha : a < 64) (hD : 0 ≤ D ∧ D ≤ 7) (ht : -1000000 ≤ t ∧ t ≤ 1000000) : CT G l mX0_allHave (d + 3) 0 0 [.ref f, .int (zI ((a : Int))), .int (zI (D)), .int (zI (t))] h (RQ h (bI (ah F a D t))) := by
  refine CT.of (by decide) (Nat.le_of_ble_eq_true rfl) (List.forall_mem_cons.mpr ⟨rfl, List.forall_mem_cons.mpr ⟨rfl, List.forall_mem_cons.mpr ⟨rfl, List.forall_mem_cons.mpr ⟨rfl, fun _ h => absurd h List.not_mem_nil⟩⟩⟩⟩) ?_
  refine EV.lvs (lv' := [some (.ref f), some (.int (zI ((a : Int)))), some (.int (zI (D))), some (.int (zI (t))), none]) rfl ?_
  have ⟨hcf, hcb, hcs, hco, hcv⟩ := hF
  have hth := hW.1
  refine EV.iconst dX0_allHave_0 ?_
  refine EV.istore (i := 4) (lv' := [some (.ref f), some (.int (zI ((a : Int)))), some (.int (zI (D))), some (.int (zI (t))), some (.int (zI (0)))]) dX0_allHave_1 (by decide) rfl ?_
  have L3 : ∀ (n3 : Nat) (p : Nat) (x4 : Int), (p ≤ 6) → (∀ i, i < p → ahB F a D t i = true) → 6 - p < n3 → x4 = (p : Int) → EV G l mX0_allHave (d + 3) (RQ h (bI (ah F a D t))) 3 [some (.ref f), some (.int (zI ((a : Int)))), some (.int (zI (D))), some (.int (zI (t))), some (.int (zI (x4)))] [] h 0 0 := by
    intro n3
    induction n3 with
    | zero => intro _ _ _ _ hm; exact absurd hm (Nat.not_lt_zero _)
    | succ n3 ih3 =>
      intro p x4 hp hall hm3 e4
      subst e4
      refine EV.iload (i := 4) dX0_allHave_3 rfl ?_
      refine EV.bipush dX0_allHave_5 (by decide) ?_
      refine EV.icmp_ge (t := 39) dX0_allHave_7 (by decide) (by omega) (fun c7 => ?_) (fun c7 => ?_)
      · skip
        obtain rfl : p = 6 := by omega
        refine EV.iconst dX0_allHave_39 ?_
        refine EV.zret rfl (by decide) dX0_allHave_40 ?_
        exact rQ (bI_t (alln_iff.mpr hall))
      · skip
        refine EV.iload_n (i := 1) dX0_allHave_10 rfl rfl ?_
        refine EV.iload (i := 4) dX0_allHave_11 rfl ?_
        refine EV.ishrW dX0_allHave_13 ?_
        refine EV.iconst dX0_allHave_14 ?_
        refine EV.iandW dX0_allHave_15 ?_
        refine EV.top (y := zI (bI (a.testBit p))) (zI_bit (by omega) (by omega)) ?_
        refine EV.iconst dX0_allHave_16 ?_
        refine EV.icmp_ne (t := 33) dX0_allHave_17 (by decide) (bI_r1 _) (fun c17 => ?_) (fun c17 => ?_)
        · skip
          have c17 := bI_ne1 c17
          refine EV.iinc (i := 4) (lv' := [some (.ref f), some (.int (zI ((a : Int)))), some (.int (zI (D))), some (.int (zI (t))), some (.int (zI ((p : Int) + 1)))]) dX0_allHave_33 rfl (by decide) rfl ?_
          refine EV.goto (t := 3) dX0_allHave_36 (by decide) ?_
          exact ih3 (p + 1) _ (by omega) (no_step hall (ahB_f c17)) (by omega) (by rfl)
        · skip
          have c17 := bI_eq1 c17
          refine EV.aload_n (i := 0) dX0_allHave_20 rfl rfl ?_
          refine EV.iload (i := 4) dX0_allHave_21 rfl ?_
          refine EV.iload_n (i := 3) dX0_allHave_23 rfl rfl ?_
          refine EV.callVr (M' := mX0_dayOn) (as := [.int (zI ((p : Int))), .int (zI (t))]) (rest := []) ml_X0_53 im_X0_dayOn se_X0_dayOn rfl co_X0_dayOn dX0_allHave_24 hcf (c_X0_dayOn (d + 0) hF hW (p : Int) t (by omega) (by omega)) rfl rfl (Nat.le_of_ble_eq_true rfl) ?_
          have hdb := hW.dnr (p : Int) t
          refine EV.iload_n (i := 2) dX0_allHave_27 rfl rfl ?_
          refine EV.icmp_eq (t := 33) dX0_allHave_28 (by decide) (by omega) (fun c28 => ?_) (fun c28 => ?_)
          · skip
            refine EV.iinc (i := 4) (lv' := [some (.ref f), some (.int (zI ((a : Int)))), some (.int (zI (D))), some (.int (zI (t))), some (.int (zI ((p : Int) + 1)))]) dX0_allHave_33 rfl (by decide) rfl ?_
            refine EV.goto (t := 3) dX0_allHave_36 (by decide) ?_
            exact ih3 (p + 1) _ (by omega) (no_step hall (ahB_y (by omega) hD.1 c28)) (by omega) (by rfl)
          · skip
            refine EV.iconst dX0_allHave_31 ?_
            refine EV.zret rfl (by decide) dX0_allHave_32 ?_
            exact rQ (bI_f (alln_f (i := p) (by omega) (ahB_n (by omega) c17 c28)))
  exact L3 _ 0 _ (by omega) (no_0) (Nat.lt_succ_self _) (by rfl)
set_option maxHeartbeats 4000000 in
set_option maxRecDepth 20000 in
theorem c_X0_everAllHave (d : Nat) {h : Hp} {F : FK} {f b s o v : Nat} {V : Nat → Int} (hF : FolkAt G h F f b s o v V) (hW : WF F) (a : Nat) (D : Int) (ha : a < 64) (hD : 0 ≤ D ∧ D ≤ 7) : CT G l mX0_everAllHave (d + 4) 0 0 [.ref f, .int (zI ((a : Int))), .int (zI (D))] h (RQ h (bI (ev F a D))) := by
  refine CT.of (by decide) (Nat.le_of_ble_eq_true rfl) (List.forall_mem_cons.mpr ⟨rfl, List.forall_mem_cons.mpr ⟨rfl, List.forall_mem_cons.mpr ⟨rfl, fun _ h => absurd h List.not_mem_nil⟩⟩⟩) ?_
  refine EV.lvs (lv' := [some (.ref f), some (.int (zI ((a : Int)))), some (.int (zI (D))), none]) rfl ?_
  have ⟨hcf, hcb, hcs, hco, hcv⟩ := hF
  have hth := hW.1
  refine EV.iconst dX0_everAllHave_0 ?_
  refine EV.istore_n (i := 3) (lv' := [some (.ref f), some (.int (zI ((a : Int)))), some (.int (zI (D))), some (.int (zI (0)))]) dX0_everAllHave_1 rfl (by decide) rfl ?_
  have L2 : ∀ (n2 : Nat) (t : Nat) (x3 : Int), (t ≤ 840) → (∀ i, i < t → (fun t : Nat => ah F a D (t : Int)) i = false) → 840 - t < n2 → x3 = (t : Int) → EV G l mX0_everAllHave (d + 4) (RQ h (bI (ev F a D))) 2 [some (.ref f), some (.int (zI ((a : Int)))), some (.int (zI (D))), some (.int (zI (x3)))] [] h 0 0 := by
    intro n2
    induction n2 with
    | zero => intro _ _ _ _ hm; exact absurd hm (Nat.not_lt_zero _)
    | succ n2 ih2 =>
      intro t x3 htN hno hm2 e3
      subst e3
      refine EV.iload_n (i := 3) dX0_everAllHave_2 rfl rfl ?_
      refine EV.sipush dX0_everAllHave_3 (by decide) ?_
      refine EV.icmp_ge (t := 27) dX0_everAllHave_6 (by decide) (by omega) (fun c6 => ?_) (fun c6 => ?_)
      · skip
        obtain rfl : t = 840 := by omega
        refine EV.iconst dX0_everAllHave_27 ?_
        refine EV.zret rfl (by decide) dX0_everAllHave_28 ?_
        exact rQ (bI_f (exn_f hno))
      · skip
        refine EV.aload_n (i := 0) dX0_everAllHave_9 rfl rfl ?_
        refine EV.iload_n (i := 1) dX0_everAllHave_10 rfl rfl ?_
        refine EV.iload_n (i := 2) dX0_everAllHave_11 rfl rfl ?_
        refine EV.iload_n (i := 3) dX0_everAllHave_12 rfl rfl ?_
        refine EV.callVr (M' := mX0_allHave) (as := [.int (zI ((a : Int))), .int (zI (D)), .int (zI ((t : Int)))]) (rest := []) ml_X0_60 im_X0_allHave se_X0_allHave rfl co_X0_allHave dX0_everAllHave_13 hcf (c_X0_allHave (d + 0) hF hW a D (t : Int) (by omega) (by omega) (by omega)) rfl rfl (Nat.le_of_ble_eq_true rfl) ?_
        refine EV.ifeqB (t := 21) dX0_everAllHave_16 (by decide) (fun c16 => ?_) (fun c16 => ?_)
        · skip
          refine EV.iinc (i := 3) (lv' := [some (.ref f), some (.int (zI ((a : Int)))), some (.int (zI (D))), some (.int (zI ((t : Int) + 1)))]) dX0_everAllHave_21 rfl (by decide) rfl ?_
          refine EV.goto (t := 2) dX0_everAllHave_24 (by decide) ?_
          exact ih2 (t + 1) _ (by omega) (no_step hno c16) (by omega) (by rfl)
        · skip
          refine EV.iconst dX0_everAllHave_19 ?_
          refine EV.zret rfl (by decide) dX0_everAllHave_20 ?_
          exact rQ (bI_t (exn_t (f := fun t : Nat => ah F a D (t : Int)) (i := t) (by omega) c16))
  exact L2 _ 0 _ (by omega) (no_0) (Nat.lt_succ_self _) (by rfl)
set_option maxHeartbeats 4000000 in
set_option maxRecDepth 20000 in
theorem c_X0_cost (d : Nat) {h : Hp} {F : FK} {f b s o v : Nat} {V : Nat → Int} (hF : FolkAt G h F f b s o v V) (hW : WF F) (p q : Nat) (hp : p < 6) (hq : q < 6) (hbp : F.1.testBit p = true) (hbq : F.1.testBit q = true) : CT G l mX0_cost (d + 5) 0 0 [.ref f, .int (zI ((p : Int))), .int (zI ((q : Int)))] h (RQ h (cst F p q)) := by
  refine CT.of (by decide) (Nat.le_of_ble_eq_true rfl) (List.forall_mem_cons.mpr ⟨rfl, List.forall_mem_cons.mpr ⟨rfl, List.forall_mem_cons.mpr ⟨rfl, fun _ h => absurd h List.not_mem_nil⟩⟩⟩) ?_
  refine EV.lvs (lv' := [some (.ref f), some (.int (zI ((p : Int)))), some (.int (zI ((q : Int))))]) rfl ?_
  have ⟨hcf, hcb, hcs, hco, hcv⟩ := hF
  have hth := hW.1
  refine EV.bipush dX0_cost_0 (by decide) ?_
  refine EV.aload_n (i := 0) dX0_cost_2 rfl rfl ?_
  refine EV.iload_n (i := 1) dX0_cost_3 rfl rfl ?_
  refine EV.iload_n (i := 2) dX0_cost_4 rfl rfl ?_
  refine EV.bipush dX0_cost_5 (by decide) ?_
  refine EV.callVr (M' := mX0_sharedDates) (as := [.int (zI ((p : Int))), .int (zI ((q : Int))), .int (zI (28))]) (rest := [.int (zI (28))]) ml_X0_66 im_X0_sharedDates se_X0_sharedDates rfl co_X0_sharedDates dX0_cost_7 hcf (c_X0_sharedDates (d + 0) hF hW p q hp hq hbp hbq 28 (by omega)) rfl rfl (Nat.le_of_ble_eq_true rfl) ?_
  have hsl := shr_le F p q 28
  refine EV.isub dX0_cost_10 ?_
  refine EV.iret rfl dX0_cost_11 ?_
  exact rQ rfl
set_option maxHeartbeats 4000000 in
set_option maxRecDepth 20000 in
theorem c_X0_costOfAll (d : Nat) {h : Hp} {F : FK} {f b s o v : Nat} {V : Nat → Int} (hF : FolkAt G h F f b s o v V) (hW : WF F) (q : Nat) (hq : q < 6) (hbq : F.1.testBit q = true) : CT G l mX0_costOfAll (d + 6) 0 0 [.ref f, .int (zI ((q : Int)))] h (RQ h (csum F q 6)) := by
  refine CT.of (by decide) (Nat.le_of_ble_eq_true rfl) (List.forall_mem_cons.mpr ⟨rfl, List.forall_mem_cons.mpr ⟨rfl, fun _ h => absurd h List.not_mem_nil⟩⟩) ?_
  refine EV.lvs (lv' := [some (.ref f), some (.int (zI ((q : Int)))), none, none]) rfl ?_
  have ⟨hcf, hcb, hcs, hco, hcv⟩ := hF
  have hth := hW.1
  refine EV.iconst dX0_costOfAll_0 ?_
  refine EV.istore_n (i := 2) (lv' := [some (.ref f), some (.int (zI ((q : Int)))), some (.int (zI (0))), none]) dX0_costOfAll_1 rfl (by decide) rfl ?_
  refine EV.iconst dX0_costOfAll_2 ?_
  refine EV.istore_n (i := 3) (lv' := [some (.ref f), some (.int (zI ((q : Int)))), some (.int (zI (0))), some (.int (zI (0)))]) dX0_costOfAll_3 rfl (by decide) rfl ?_
  have L4 : ∀ (n4 : Nat) (p : Nat) (x2 x3 : Int), (p ≤ 6) → 6 - p < n4 → x2 = csum F q p → x3 = (p : Int) → EV G l mX0_costOfAll (d + 6) (RQ h (csum F q 6)) 4 [some (.ref f), some (.int (zI ((q : Int)))), some (.int (zI (x2))), some (.int (zI (x3)))] [] h 0 0 := by
    intro n4
    induction n4 with
    | zero => intro _ _ _ _ hm; exact absurd hm (Nat.not_lt_zero _)
    | succ n4 ih4 =>
      intro p x2 x3 hp6 hm4 e2 e3
      subst e2 e3
      have hcs2 := csum_in F q p
      refine EV.iload_n (i := 3) dX0_costOfAll_4 rfl rfl ?_
      refine EV.bipush dX0_costOfAll_5 (by decide) ?_
      refine EV.icmp_ge (t := 33) dX0_costOfAll_7 (by decide) (by omega) (fun c7 => ?_) (fun c7 => ?_)
      · skip
        obtain rfl : p = 6 := by omega
        refine EV.iload_n (i := 2) dX0_costOfAll_33 rfl rfl ?_
        refine EV.iret rfl dX0_costOfAll_34 ?_
        exact rQ rfl
      · skip
        refine EV.aload_n (i := 0) dX0_costOfAll_10 rfl rfl ?_
        refine EV.iload_n (i := 3) dX0_costOfAll_11 rfl rfl ?_
        refine EV.callVr (M' := mX0_isThere) (as := [.int (zI ((p : Int)))]) (rest := []) ml_X0_70 im_X0_isThere se_X0_isThere rfl co_X0_isThere dX0_costOfAll_12 hcf (c_X0_isThere (d + 3) hF hW (p : Int) (by omega)) rfl rfl (Nat.le_of_ble_eq_true rfl) ?_
        refine EV.ifeqB (t := 27) dX0_costOfAll_15 (by decide) (fun c15 => ?_) (fun c15 => ?_)
        · skip
          refine EV.iinc (i := 3) (lv' := [some (.ref f), some (.int (zI ((q : Int)))), some (.int (zI (csum F q p))), some (.int (zI ((p : Int) + 1)))]) dX0_costOfAll_27 rfl (by decide) rfl ?_
          refine EV.goto (t := 4) dX0_costOfAll_30 (by decide) ?_
          exact ih4 (p + 1) _ _ (by omega) (by omega) (by rw [thI_n F (by omega)] at c15; rw [csum, if_neg (by rw [c15]; decide), Int.add_zero]) (by rfl)
        · skip
          have hp : p < 6 := by omega
          have hbp : F.1.testBit p = true := by rw [thI_n F hp] at c15; exact c15
          refine EV.iload_n (i := 2) dX0_costOfAll_18 rfl rfl ?_
          refine EV.aload_n (i := 0) dX0_costOfAll_19 rfl rfl ?_
          refine EV.iload_n (i := 3) dX0_costOfAll_20 rfl rfl ?_
          refine EV.iload_n (i := 1) dX0_costOfAll_21 rfl rfl ?_
          refine EV.callVr (M' := mX0_cost) (as := [.int (zI ((p : Int))), .int (zI ((q : Int)))]) (rest := [.int (zI (csum F q p))]) ml_X0_74 im_X0_cost se_X0_cost rfl co_X0_cost dX0_costOfAll_22 hcf (c_X0_cost (d + 0) hF hW p q hp hq hbp hbq) rfl rfl (Nat.le_of_ble_eq_true rfl) ?_
          have hci := cst_in F p q
          refine EV.iadd dX0_costOfAll_25 ?_
          refine EV.istore_n (i := 2) (lv' := [some (.ref f), some (.int (zI ((q : Int)))), some (.int (zI ((csum F q p + cst F p q)))), some (.int (zI ((p : Int))))]) dX0_costOfAll_26 rfl (by decide) rfl ?_
          refine EV.iinc (i := 3) (lv' := [some (.ref f), some (.int (zI ((q : Int)))), some (.int (zI ((csum F q p + cst F p q)))), some (.int (zI ((p : Int) + 1)))]) dX0_costOfAll_27 rfl (by decide) rfl ?_
          refine EV.goto (t := 4) dX0_costOfAll_30 (by decide) ?_
          exact ih4 (p + 1) _ _ (by omega) (by omega) (by rw [csum, if_pos hbp]) (by rfl)
  exact L4 _ 0 _ _ (by omega) (Nat.lt_succ_self _) (by rfl) (by rfl)
set_option maxHeartbeats 4000000 in
set_option maxRecDepth 20000 in
theorem c_X0_datesApart (d : Nat) {h : Hp} {F : FK} {f b s o v : Nat} {V : Nat → Int} (hF : FolkAt G h F f b s o v V) (hW : WF F) (hs : ∃ q, q < 6 ∧ F.1.testBit q = true) : CT G l mX0_datesApart (d + 4) 0 0 [.ref f] h (RQ h (((cnt (fun t : Nat => decide (cd F F.1 (t : Int) = -6)) 28 : Nat) : Int))) := by
  refine CT.of (by decide) (Nat.le_of_ble_eq_true rfl) (List.forall_mem_cons.mpr ⟨rfl, fun _ h => absurd h List.not_mem_nil⟩) ?_
  refine EV.lvs (lv' := [some (.ref f), none, none]) rfl ?_
  have ⟨hcf, hcb, hcs, hco, hcv⟩ := hF
  have hth := hW.1
  have hsub : ∀ q, q < 6 → F.1.testBit q = true → F.1.testBit q = true := fun _ _ h => h
  refine EV.iconst dX0_datesApart_0 ?_
  refine EV.istore_n (i := 1) (lv' := [some (.ref f), some (.int (zI (0))), none]) dX0_datesApart_1 rfl (by decide) rfl ?_
  refine EV.iconst dX0_datesApart_2 ?_
  refine EV.istore_n (i := 2) (lv' := [some (.ref f), some (.int (zI (0))), some (.int (zI (0)))]) dX0_datesApart_3 rfl (by decide) rfl ?_
  have L4 : ∀ (n4 : Nat) (t : Nat) (x1 x2 : Int), (t ≤ 28) → 28 - t < n4 → x1 = ((cnt (fun t : Nat => decide (cd F F.1 (t : Int) = -6)) t : Nat) : Int) → x2 = (t : Int) → EV G l mX0_datesApart (d + 4) (RQ h (((cnt (fun t : Nat => decide (cd F F.1 (t : Int) = -6)) 28 : Nat) : Int))) 4 [some (.ref f), some (.int (zI (x1))), some (.int (zI (x2)))] [] h 0 0 := by
    intro n4
    induction n4 with
    | zero => intro _ _ _ _ hm; exact absurd hm (Nat.not_lt_zero _)
    | succ n4 ih4 =>
      intro t x1 x2 ht hm4 e1 e2
      subst e1 e2
      have hcl := cnt_le (fun t : Nat => decide (cd F F.1 (t : Int) = -6)) t
      refine EV.iload_n (i := 2) dX0_datesApart_4 rfl rfl ?_
      refine EV.bipush dX0_datesApart_5 (by decide) ?_
      refine EV.icmp_ge (t := 33) dX0_datesApart_7 (by decide) (by omega) (fun c7 => ?_) (fun c7 => ?_)
      · skip
        obtain rfl : t = 28 := by omega
        refine EV.iload_n (i := 1) dX0_datesApart_33 rfl rfl ?_
        refine EV.iret rfl dX0_datesApart_34 ?_
        exact rQ rfl
      · skip
        refine EV.aload_n (i := 0) dX0_datesApart_10 rfl rfl ?_
        refine EV.aload_n (i := 0) dX0_datesApart_11 rfl rfl ?_
        refine EV.getf fl_X0_24 dX0_datesApart_12 hcf rfl ?_
        refine EV.iload_n (i := 2) dX0_datesApart_15 rfl rfl ?_
        refine EV.callVr (M' := mX0_commonDay) (as := [.int (zI ((F.1 : Int))), .int (zI ((t : Int)))]) (rest := []) ml_X0_77 im_X0_commonDay se_X0_commonDay rfl co_X0_commonDay dX0_datesApart_16 hcf (c_X0_commonDay (d + 0) hF hW F.1 (t : Int) (by omega) hs hsub (by omega)) rfl rfl (Nat.le_of_ble_eq_true rfl) ?_
        have hcb2 := cd_in F F.1 (t : Int)
        refine EV.bipush dX0_datesApart_19 (by decide) ?_
        refine EV.icmp_ne (t := 27) dX0_datesApart_21 (by decide) (by omega) (fun c21 => ?_) (fun c21 => ?_)
        · skip
          refine EV.iinc (i := 2) (lv' := [some (.ref f), some (.int (zI (((cnt (fun t : Nat => decide (cd F F.1 (t : Int) = -6)) t : Nat) : Int)))), some (.int (zI ((t : Int) + 1)))]) dX0_datesApart_27 rfl (by decide) rfl ?_
          refine EV.goto (t := 4) dX0_datesApart_30 (by decide) ?_
          exact ih4 (t + 1) _ _ (by omega) (by omega) (cnt_n (f := fun t : Nat => decide (cd F F.1 (t : Int) = -6)) (decide_eq_false c21)) (by rfl)
        · skip
          refine EV.iinc (i := 1) (lv' := [some (.ref f), some (.int (zI (((cnt (fun t : Nat => decide (cd F F.1 (t : Int) = -6)) t : Nat) : Int) + 1))), some (.int (zI ((t : Int))))]) dX0_datesApart_24 rfl (by decide) rfl ?_
          refine EV.iinc (i := 2) (lv' := [some (.ref f), some (.int (zI ((((cnt (fun t : Nat => decide (cd F F.1 (t : Int) = -6)) t : Nat) : Int) + 1)))), some (.int (zI ((t : Int) + 1)))]) dX0_datesApart_27 rfl (by decide) rfl ?_
          refine EV.goto (t := 4) dX0_datesApart_30 (by decide) ?_
          exact ih4 (t + 1) _ _ (by omega) (by omega) (cnt_y (f := fun t : Nat => decide (cd F F.1 (t : Int) = -6)) (decide_eq_true c21)) (by rfl)
  exact L4 _ 0 _ _ (by omega) (Nat.lt_succ_self _) (by rfl) (by rfl)
set_option maxHeartbeats 4000000 in
set_option maxRecDepth 20000 in
theorem c_X0_isDelayed (d : Nat) {h : Hp} {F : FK} {f b s o v : Nat} {V : Nat → Int} (hF : FolkAt G h F f b s o v V) (hW : WF F) (p q : Nat) (hp : p < 6) (hq : q < 6) (hbp : F.1.testBit p = true) (hbq : F.1.testBit q = true) (on : Int) (hon : -1 ≤ on ∧ on ≤ 1) : CT G l mX0_isDelayed (d + 3) 0 0 [.ref f, .int (zI ((p : Int))), .int (zI ((q : Int))), .int (zI (on))] h (RQ h (bI (dl F p q on))) := by
  refine CT.of (by decide) (Nat.le_of_ble_eq_true rfl) (List.forall_mem_cons.mpr ⟨rfl, List.forall_mem_cons.mpr ⟨rfl, List.forall_mem_cons.mpr ⟨rfl, List.forall_mem_cons.mpr ⟨rfl, fun _ h => absurd h List.not_mem_nil⟩⟩⟩⟩) ?_
  refine EV.lvs (lv' := [some (.ref f), some (.int (zI ((p : Int)))), some (.int (zI ((q : Int)))), some (.int (zI (on))), none]) rfl ?_
  have ⟨hcf, hcb, hcs, hco, hcv⟩ := hF
  have hth := hW.1
  refine EV.iconst dX0_isDelayed_0 ?_
  refine EV.istore (i := 4) (lv' := [some (.ref f), some (.int (zI ((p : Int)))), some (.int (zI ((q : Int)))), some (.int (zI (on))), some (.int (zI (0)))]) dX0_isDelayed_1 (by decide) rfl ?_
  have L3 : ∀ (n3 : Nat) (t : Nat) (x4 : Int), (t ≤ 840) → (∀ i, i < t → dlB F p q on i = true) → 840 - t < n3 → x4 = (t : Int) → EV G l mX0_isDelayed (d + 3) (RQ h (bI (dl F p q on))) 3 [some (.ref f), some (.int (zI ((p : Int)))), some (.int (zI ((q : Int)))), some (.int (zI (on))), some (.int (zI (x4)))] [] h 0 0 := by
    intro n3
    induction n3 with
    | zero => intro _ _ _ _ hm; exact absurd hm (Nat.not_lt_zero _)
    | succ n3 ih3 =>
      intro t x4 ht hall hm3 e4
      subst e4
      refine EV.iload (i := 4) dX0_isDelayed_3 rfl ?_
      refine EV.sipush dX0_isDelayed_5 (by decide) ?_
      refine EV.icmp_ge (t := 38) dX0_isDelayed_8 (by decide) (by omega) (fun c8 => ?_) (fun c8 => ?_)
      · skip
        obtain rfl : t = 840 := by omega
        refine EV.iconst dX0_isDelayed_38 ?_
        refine EV.zret rfl (by decide) dX0_isDelayed_39 ?_
        exact rQ (bI_t (alln_iff.mpr hall))
      · skip
        refine EV.aload_n (i := 0) dX0_isDelayed_11 rfl rfl ?_
        refine EV.iload_n (i := 2) dX0_isDelayed_12 rfl rfl ?_
        refine EV.iload (i := 4) dX0_isDelayed_13 rfl ?_
        refine EV.callVr (M' := mX0_dayOn) (as := [.int (zI ((q : Int))), .int (zI ((t : Int)))]) (rest := []) ml_X0_53 im_X0_dayOn se_X0_dayOn rfl co_X0_dayOn dX0_isDelayed_15 hcf (c_X0_dayOn (d + 0) hF hW (q : Int) (t : Int) (by omega) (by omega)) rfl rfl (Nat.le_of_ble_eq_true rfl) ?_
        refine EV.top (y := zI (dy F q (t : Int))) (by rw [dn_y hq hbq]) ?_
        have hr1 := hW.dy hq hbq (t : Int)
        refine EV.aload_n (i := 0) dX0_isDelayed_18 rfl rfl ?_
        refine EV.iload_n (i := 1) dX0_isDelayed_19 rfl rfl ?_
        refine EV.iload (i := 4) dX0_isDelayed_20 rfl ?_
        refine EV.iload_n (i := 3) dX0_isDelayed_22 rfl rfl ?_
        refine EV.iadd dX0_isDelayed_23 ?_
        refine EV.callVr (M' := mX0_dayOn) (as := [.int (zI ((p : Int))), .int (zI (((t : Int) + on)))]) (rest := [.int (zI (dy F q (t : Int)))]) ml_X0_53 im_X0_dayOn se_X0_dayOn rfl co_X0_dayOn dX0_isDelayed_24 hcf (c_X0_dayOn (d + 0) hF hW (p : Int) ((t : Int) + on) (by omega) (by omega)) rfl rfl (Nat.le_of_ble_eq_true rfl) ?_
        refine EV.top (y := zI (dy F p ((t : Int) + on))) (by rw [dn_y hp hbp]) ?_
        have hr2 := hW.dy hp hbp ((t : Int) + on)
        refine EV.icmp_eq (t := 32) dX0_isDelayed_27 (by decide) (by omega) (fun c27 => ?_) (fun c27 => ?_)
        · skip
          refine EV.iinc (i := 4) (lv' := [some (.ref f), some (.int (zI ((p : Int)))), some (.int (zI ((q : Int)))), some (.int (zI (on))), some (.int (zI ((t : Int) + 1)))]) dX0_isDelayed_32 rfl (by decide) rfl ?_
          refine EV.goto (t := 3) dX0_isDelayed_35 (by decide) ?_
          exact ih3 (t + 1) _ (by omega) (no_step hall (decide_eq_true c27)) (by omega) (by rfl)
        · skip
          refine EV.iconst dX0_isDelayed_30 ?_
          refine EV.zret rfl (by decide) dX0_isDelayed_31 ?_
          exact rQ (bI_f (alln_f (f := dlB F p q on) (i := t) (by omega) (decide_eq_false c27)))
  exact L3 _ 0 _ (by omega) (no_0) (Nat.lt_succ_self _) (by rfl)
set_option maxHeartbeats 4000000 in
set_option maxRecDepth 20000 in
theorem c_X0_areTwins (d : Nat) {h : Hp} {F : FK} {f b s o v : Nat} {V : Nat → Int} (hF : FolkAt G h F f b s o v V) (hW : WF F) (p q : Nat) (hp : p < 6) (hq : q < 6) (hbp : F.1.testBit p = true) (hbq : F.1.testBit q = true) : CT G l mX0_areTwins (d + 4) 0 0 [.ref f, .int (zI ((p : Int))), .int (zI ((q : Int)))] h (RQ h (bI (twB F p q))) := by
  refine CT.of (by decide) (Nat.le_of_ble_eq_true rfl) (List.forall_mem_cons.mpr ⟨rfl, List.forall_mem_cons.mpr ⟨rfl, List.forall_mem_cons.mpr ⟨rfl, fun _ h => absurd h List.not_mem_nil⟩⟩⟩) ?_
  refine EV.lvs (lv' := [some (.ref f), some (.int (zI ((p : Int)))), some (.int (zI ((q : Int))))]) rfl ?_
  have ⟨hcf, hcb, hcs, hco, hcv⟩ := hF
  have hth := hW.1
  refine EV.aload_n (i := 0) dX0_areTwins_0 rfl rfl ?_
  refine EV.iload_n (i := 1) dX0_areTwins_1 rfl rfl ?_
  refine EV.iload_n (i := 2) dX0_areTwins_2 rfl rfl ?_
  refine EV.iconst dX0_areTwins_3 ?_
  refine EV.callVr (M' := mX0_isDelayed) (as := [.int (zI ((p : Int))), .int (zI ((q : Int))), .int (zI ((-1)))]) (rest := []) ml_X0_87 im_X0_isDelayed se_X0_isDelayed rfl co_X0_isDelayed dX0_areTwins_4 hcf (c_X0_isDelayed (d + 0) hF hW p q hp hq hbp hbq (-1) (by omega)) rfl rfl (Nat.le_of_ble_eq_true rfl) ?_
  refine EV.ifneB (t := 20) dX0_areTwins_7 (by decide) (fun c7 => ?_) (fun c7 => ?_)
  · skip
    refine EV.iconst dX0_areTwins_20 ?_
    refine EV.goto (t := 25) dX0_areTwins_21 (by decide) ?_
    refine EV.zret rfl (by decide) dX0_areTwins_25 ?_
    exact rQ (bI_t (by rw [twB, c7]; rfl))
  · skip
    refine EV.aload_n (i := 0) dX0_areTwins_10 rfl rfl ?_
    refine EV.iload_n (i := 1) dX0_areTwins_11 rfl rfl ?_
    refine EV.iload_n (i := 2) dX0_areTwins_12 rfl rfl ?_
    refine EV.iconst dX0_areTwins_13 ?_
    refine EV.callVr (M' := mX0_isDelayed) (as := [.int (zI ((p : Int))), .int (zI ((q : Int))), .int (zI (1))]) (rest := []) ml_X0_87 im_X0_isDelayed se_X0_isDelayed rfl co_X0_isDelayed dX0_areTwins_14 hcf (c_X0_isDelayed (d + 0) hF hW p q hp hq hbp hbq 1 (by omega)) rfl rfl (Nat.le_of_ble_eq_true rfl) ?_
    refine EV.ifeqB (t := 24) dX0_areTwins_17 (by decide) (fun c17 => ?_) (fun c17 => ?_)
    · skip
      refine EV.iconst dX0_areTwins_24 ?_
      refine EV.zret rfl (by decide) dX0_areTwins_25 ?_
      exact rQ (bI_f (by rw [twB, c7, c17]; rfl))
    · skip
      refine EV.iconst dX0_areTwins_20 ?_
      refine EV.goto (t := 25) dX0_areTwins_21 (by decide) ?_
      refine EV.zret rfl (by decide) dX0_areTwins_25 ?_
      exact rQ (bI_t (by rw [twB, c7, c17]; rfl))
end
