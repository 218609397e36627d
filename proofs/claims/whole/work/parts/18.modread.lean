section
variable {G : GG} {l : Launch}
variable {h : Hp} {m : Nat} {A : Nat → Nat} {F : FK} {P : PL} {T : ST} {K : PD} {la im ik : Nat → Int}
set_option maxHeartbeats 4000000 in
set_option maxRecDepth 20000 in
theorem c_X7_isThere (d : Nat) (hM : ModAt G h m A F P T K la im ik) (hW : WF F) (z : Int) (hz : inR z) : CT G l mX7_isThere (d + 2) 0 0 [.ref m, .int (zI (z))] h (RQ h (bI (thI F z))) := by
  refine CT.of (by decide) (Nat.le_of_ble_eq_true rfl) (List.forall_mem_cons.mpr ⟨rfl, List.forall_mem_cons.mpr ⟨rfl, fun _ h => absurd h List.not_mem_nil⟩⟩) ?_
  refine EV.lvs (lv' := [some (.ref m), some (.int (zI (z)))]) rfl ?_
  have ⟨hcm, hc0, hc1, hc2, hc3, hc4, hc5, hc6, hc7, hc8, hc9⟩ := hM
  have hth := hW.1
  refine EV.iload_n (i := 1) dX7_isThere_0 rfl rfl ?_
  refine EV.iconst dX7_isThere_1 ?_
  refine EV.iconst dX7_isThere_2 ?_
  refine EV.callSr (M' := mX7_in) (as := [.int (zI (z)), .int (zI (0)), .int (zI (5))]) (rest := []) ml_X7_45 sm_X7_in co_X7_in dX7_isThere_3 (c_X7_in (d + 0) z 0 5 (by omega) (by omega) (by omega)) rfl rfl (Nat.le_of_ble_eq_true rfl) ?_
  refine EV.ifeqB (t := 24) dX7_isThere_6 (by decide) (fun c6 => ?_) (fun c6 => ?_)
  · skip
    have c6r := of_nrg c6
    refine EV.iconst dX7_isThere_24 ?_
    refine EV.zret rfl (by decide) dX7_isThere_25 ?_
    exact rQ (bI_f (thI_f1 (by omega)))
  · skip
    have c6r := of_rg c6
    obtain ⟨p, rfl⟩ : ∃ p : Nat, z = (p : Int) := ⟨z.toNat, by omega⟩
    refine EV.aload_n (i := 0) dX7_isThere_9 rfl rfl ?_
    refine EV.getf fl_X7_41 dX7_isThere_10 hcm rfl ?_
    refine EV.iload_n (i := 1) dX7_isThere_13 rfl rfl ?_
    refine EV.callSr (M' := mX7_has) (as := [.int (zI ((F.1 : Int))), .int (zI ((p : Int)))]) (rest := []) ml_X7_49 sm_X7_has co_X7_has dX7_isThere_14 (c_X7_has (d + 0) F.1 p (by omega) (by omega)) rfl rfl (Nat.le_of_ble_eq_true rfl) ?_
    refine EV.ifeqB (t := 24) dX7_isThere_17 (by decide) (fun c17 => ?_) (fun c17 => ?_)
    · skip
      refine EV.iconst dX7_isThere_24 ?_
      refine EV.zret rfl (by decide) dX7_isThere_25 ?_
      exact rQ (bI_f ((thI_n F (by omega)).trans c17))
    · skip
      refine EV.iconst dX7_isThere_20 ?_
      refine EV.goto (t := 25) dX7_isThere_21 (by decide) ?_
      refine EV.zret rfl (by decide) dX7_isThere_25 ?_
      exact rQ (bI_t ((thI_n F (by omega)).trans c17))
set_option maxHeartbeats 4000000 in
set_option maxRecDepth 20000 in
theorem c_X7_dayOf (d : Nat) (hM : ModAt G h m A F P T K la im ik) (hW : WF F) (p : Nat) (t : Int) (hp : p < 6) (hb : F.1.testBit p = true) (ht : -1000000 ≤ t ∧ t ≤ 1000000) : CT G l mX7_dayOf (d + 1) 0 0 [.ref m, .int (zI ((p : Int))), .int (zI (t))] h (RQ h (dy F p t)) := by
  refine CT.of (by decide) (Nat.le_of_ble_eq_true rfl) (List.forall_mem_cons.mpr ⟨rfl, List.forall_mem_cons.mpr ⟨rfl, List.forall_mem_cons.mpr ⟨rfl, fun _ h => absurd h List.not_mem_nil⟩⟩⟩) ?_
  refine EV.lvs (lv' := [some (.ref m), some (.int (zI ((p : Int)))), some (.int (zI (t))), none]) rfl ?_
  have ⟨hcm, hc0, hc1, hc2, hc3, hc4, hc5, hc6, hc7, hc8, hc9⟩ := hM
  have hth := hW.1
  obtain ⟨hB, hS, hO⟩ := hW.2 p hp hb
  have hbd := tm_bnd (x := t - F.2.1 p) (n := F.2.2.1 p) (by omega)
  refine EV.aload_n (i := 0) dX7_dayOf_0 rfl rfl ?_
  refine EV.getf fl_X7_13 dX7_dayOf_1 hcm rfl ?_
  refine EV.iload_n (i := 1) dX7_dayOf_4 rfl rfl ?_
  refine EV.iald dX7_dayOf_5 hc1 (p) (rfl) (by omega) ?_
  refine EV.istore_n (i := 3) (lv' := [some (.ref m), some (.int (zI ((p : Int)))), some (.int (zI (t))), some (.int (zI (F.2.2.1 p)))]) dX7_dayOf_6 rfl (by decide) rfl ?_
  refine EV.aload_n (i := 0) dX7_dayOf_7 rfl rfl ?_
  refine EV.getf fl_X7_7 dX7_dayOf_8 hcm rfl ?_
  refine EV.bipush dX7_dayOf_11 (by decide) ?_
  refine EV.iload_n (i := 1) dX7_dayOf_13 rfl rfl ?_
  refine EV.imul dX7_dayOf_14 ?_
  refine EV.iload_n (i := 2) dX7_dayOf_15 rfl rfl ?_
  refine EV.aload_n (i := 0) dX7_dayOf_16 rfl rfl ?_
  refine EV.getf fl_X7_16 dX7_dayOf_17 hcm rfl ?_
  refine EV.iload_n (i := 1) dX7_dayOf_20 rfl rfl ?_
  refine EV.iald dX7_dayOf_21 hc2 (p) (rfl) (by omega) ?_
  refine EV.isub dX7_dayOf_22 ?_
  refine EV.iload_n (i := 3) dX7_dayOf_23 rfl rfl ?_
  refine EV.irem dX7_dayOf_24 (by omega) ?_
  refine EV.iload_n (i := 3) dX7_dayOf_25 rfl rfl ?_
  refine EV.iadd dX7_dayOf_26 ?_
  refine EV.iload_n (i := 3) dX7_dayOf_27 rfl rfl ?_
  refine EV.irem dX7_dayOf_28 (by omega) ?_
  have h4 := Int.emod_nonneg (t - F.2.1 p) (b := F.2.2.1 p) (by omega)
  have h5 := Int.emod_lt_of_pos (t - F.2.1 p) (b := F.2.2.1 p) (by omega)
  obtain ⟨r, hr⟩ : ∃ r : Nat, (t - F.2.1 p) % F.2.2.1 p = (r : Int) := ⟨_, (Int.toNat_of_nonneg h4).symm⟩
  refine EV.top (y := zI ((r : Int))) (by rw [mo_mod (by omega), hr]) ?_
  refine EV.iadd dX7_dayOf_29 ?_
  refine EV.iald dX7_dayOf_30 hc0 (8 * p + r) (by omega) (by omega) ?_
  refine EV.iret rfl dX7_dayOf_31 ?_
  exact rQ (by rw [dy, hr, Int.toNat_natCast])
set_option maxHeartbeats 4000000 in
set_option maxRecDepth 20000 in
theorem c_X7_having (d : Nat) (hM : ModAt G h m A F P T K la im ik) (hW : WF F) (a : Nat) (D t : Int) (ha : a < 64) (hsub : ∀ q, q < 6 → a.testBit q = true → F.1.testBit q = true) (hD : 0 ≤ D ∧ D ≤ 7) (ht : -1000000 ≤ t ∧ t ≤ 1000000) : CT G l mX7_having (d + 2) 0 0 [.ref m, .int (zI ((a : Int))), .int (zI (D)), .int (zI (t))] h (RQ h ((hs F a D t : Int))) := by
  refine CT.of (by decide) (Nat.le_of_ble_eq_true rfl) (List.forall_mem_cons.mpr ⟨rfl, List.forall_mem_cons.mpr ⟨rfl, List.forall_mem_cons.mpr ⟨rfl, List.forall_mem_cons.mpr ⟨rfl, fun _ h => absurd h List.not_mem_nil⟩⟩⟩⟩) ?_
  refine EV.lvs (lv' := [some (.ref m), some (.int (zI ((a : Int)))), some (.int (zI (D))), some (.int (zI (t))), none, none]) rfl ?_
  have ⟨hcm, hc0, hc1, hc2, hc3, hc4, hc5, hc6, hc7, hc8, hc9⟩ := hM
  have hth := hW.1
  refine EV.iconst dX7_having_0 ?_
  refine EV.istore (i := 4) (lv' := [some (.ref m), some (.int (zI ((a : Int)))), some (.int (zI (D))), some (.int (zI (t))), some (.int (zI (0))), none]) dX7_having_1 (by decide) rfl ?_
  refine EV.iconst dX7_having_3 ?_
  refine EV.istore (i := 5) (lv' := [some (.ref m), some (.int (zI ((a : Int)))), some (.int (zI (D))), some (.int (zI (t))), some (.int (zI (0))), some (.int (zI (0)))]) dX7_having_4 (by decide) rfl ?_
  have L6 : ∀ (n6 : Nat) (p : Nat) (x4 x5 : Int), (p ≤ 6) → 6 - p < n6 → x4 = ((orb (hsB F a D t) p : Nat) : Int) → x5 = (p : Int) → EV G l mX7_having (d + 2) (RQ h ((hs F a D t : Int))) 6 [some (.ref m), some (.int (zI ((a : Int)))), some (.int (zI (D))), some (.int (zI (t))), some (.int (zI (x4))), some (.int (zI (x5)))] [] h 0 0 := by
    intro n6
    induction n6 with
    | zero => intro _ _ _ _ hm; exact absurd hm (Nat.not_lt_zero _)
    | succ n6 ih6 =>
      intro p x4 x5 hp hm6 e4 e5
      subst e4 e5
      refine EV.iload (i := 5) dX7_having_6 rfl ?_
      refine EV.bipush dX7_having_8 (by decide) ?_
      refine EV.icmp_ge (t := 52) dX7_having_10 (by decide) (by omega) (fun c10 => ?_) (fun c10 => ?_)
      · skip
        obtain rfl : p = 6 := by omega
        refine EV.iload (i := 4) dX7_having_52 rfl ?_
        refine EV.iret rfl dX7_having_54 ?_
        exact rQ rfl
      · skip
        refine EV.iload (i := 4) dX7_having_13 rfl ?_
        refine EV.iload_n (i := 1) dX7_having_15 rfl rfl ?_
        refine EV.iload (i := 5) dX7_having_16 rfl ?_
        refine EV.callSr (M' := mX7_has) (as := [.int (zI ((a : Int))), .int (zI ((p : Int)))]) (rest := [.int (zI (((orb (hsB F a D t) p : Nat) : Int)))]) ml_X7_49 sm_X7_has co_X7_has dX7_having_18 (c_X7_has (d + 0) a p (by omega) (by omega)) rfl rfl (Nat.le_of_ble_eq_true rfl) ?_
        refine EV.ifeqB (t := 42) dX7_having_21 (by decide) (fun c21 => ?_) (fun c21 => ?_)
        · skip
          refine EV.iconst dX7_having_42 ?_
          refine EV.iorW dX7_having_43 ?_
          refine EV.top (y := zI (((orb (hsB F a D t) (p + 1) : Nat) : Int))) (zI_orb0 (hsB_n (Or.inl c21))) ?_
          refine EV.istore (i := 4) (lv' := [some (.ref m), some (.int (zI ((a : Int)))), some (.int (zI (D))), some (.int (zI (t))), some (.int (zI (((orb (hsB F a D t) (p + 1) : Nat) : Int)))), some (.int (zI ((p : Int))))]) dX7_having_44 (by decide) rfl ?_
          refine EV.iinc (i := 5) (lv' := [some (.ref m), some (.int (zI ((a : Int)))), some (.int (zI (D))), some (.int (zI (t))), some (.int (zI (((orb (hsB F a D t) (p + 1) : Nat) : Int)))), some (.int (zI ((p : Int) + 1)))]) dX7_having_46 rfl (by decide) rfl ?_
          refine EV.goto (t := 6) dX7_having_49 (by decide) ?_
          exact ih6 (p + 1) _ _ (by omega) (by omega) (by rfl) (by rfl)
        · skip
          have hb := hsub p (by omega) c21
          refine EV.aload_n (i := 0) dX7_having_24 rfl rfl ?_
          refine EV.iload (i := 5) dX7_having_25 rfl ?_
          refine EV.iload_n (i := 3) dX7_having_27 rfl rfl ?_
          refine EV.callVr (M' := mX7_dayOf) (as := [.int (zI ((p : Int))), .int (zI (t))]) (rest := [.int (zI (((orb (hsB F a D t) p : Nat) : Int)))]) ml_X7_80 im_X7_dayOf se_X7_dayOf rfl co_X7_dayOf dX7_having_28 hcm (c_X7_dayOf (d + 0) hM hW p t (by omega) hb (by omega)) rfl rfl (Nat.le_of_ble_eq_true rfl) ?_
          have hdy := hW.dy (p := p) (by omega) hb t
          refine EV.iload_n (i := 2) dX7_having_31 rfl rfl ?_
          refine EV.icmp_ne (t := 42) dX7_having_32 (by decide) (by omega) (fun c32 => ?_) (fun c32 => ?_)
          · skip
            refine EV.iconst dX7_having_42 ?_
            refine EV.iorW dX7_having_43 ?_
            refine EV.top (y := zI (((orb (hsB F a D t) (p + 1) : Nat) : Int))) (zI_orb0 (hsB_n (Or.inr c32))) ?_
            refine EV.istore (i := 4) (lv' := [some (.ref m), some (.int (zI ((a : Int)))), some (.int (zI (D))), some (.int (zI (t))), some (.int (zI (((orb (hsB F a D t) (p + 1) : Nat) : Int)))), some (.int (zI ((p : Int))))]) dX7_having_44 (by decide) rfl ?_
            refine EV.iinc (i := 5) (lv' := [some (.ref m), some (.int (zI ((a : Int)))), some (.int (zI (D))), some (.int (zI (t))), some (.int (zI (((orb (hsB F a D t) (p + 1) : Nat) : Int)))), some (.int (zI ((p : Int) + 1)))]) dX7_having_46 rfl (by decide) rfl ?_
            refine EV.goto (t := 6) dX7_having_49 (by decide) ?_
            exact ih6 (p + 1) _ _ (by omega) (by omega) (by rfl) (by rfl)
          · skip
            refine EV.iconst dX7_having_35 ?_
            refine EV.iload (i := 5) dX7_having_36 rfl ?_
            refine EV.ishlW dX7_having_38 ?_
            refine EV.goto (t := 43) dX7_having_39 (by decide) ?_
            refine EV.iorW dX7_having_43 ?_
            refine EV.top (y := zI (((orb (hsB F a D t) (p + 1) : Nat) : Int))) (zI_orb (by omega) (hsB_y c21 c32)) ?_
            refine EV.istore (i := 4) (lv' := [some (.ref m), some (.int (zI ((a : Int)))), some (.int (zI (D))), some (.int (zI (t))), some (.int (zI (((orb (hsB F a D t) (p + 1) : Nat) : Int)))), some (.int (zI ((p : Int))))]) dX7_having_44 (by decide) rfl ?_
            refine EV.iinc (i := 5) (lv' := [some (.ref m), some (.int (zI ((a : Int)))), some (.int (zI (D))), some (.int (zI (t))), some (.int (zI (((orb (hsB F a D t) (p + 1) : Nat) : Int)))), some (.int (zI ((p : Int) + 1)))]) dX7_having_46 rfl (by decide) rfl ?_
            refine EV.goto (t := 6) dX7_having_49 (by decide) ?_
            exact ih6 (p + 1) _ _ (by omega) (by omega) (by rfl) (by rfl)
  exact L6 _ 0 _ _ (by omega) (Nat.lt_succ_self _) (by rfl) (by rfl)
set_option maxHeartbeats 4000000 in
set_option maxRecDepth 20000 in
theorem c_X7_areThere (d : Nat) (hM : ModAt G h m A F P T K la im ik) (hW : WF F) (z : Int) (hz : inR z) : CT G l mX7_areThere (d + 2) 0 0 [.ref m, .int (zI (z))] h (RQ h (bI (setB F z))) := by
  refine CT.of (by decide) (Nat.le_of_ble_eq_true rfl) (List.forall_mem_cons.mpr ⟨rfl, List.forall_mem_cons.mpr ⟨rfl, fun _ h => absurd h List.not_mem_nil⟩⟩) ?_
  refine EV.lvs (lv' := [some (.ref m), some (.int (zI (z)))]) rfl ?_
  have ⟨hcm, hc0, hc1, hc2, hc3, hc4, hc5, hc6, hc7, hc8, hc9⟩ := hM
  have hth := hW.1
  refine EV.iload_n (i := 1) dX7_areThere_0 rfl rfl ?_
  refine EV.iconst dX7_areThere_1 ?_
  refine EV.bipush dX7_areThere_2 (by decide) ?_
  refine EV.callSr (M' := mX7_in) (as := [.int (zI (z)), .int (zI (1)), .int (zI (63))]) (rest := []) ml_X7_45 sm_X7_in co_X7_in dX7_areThere_4 (c_X7_in (d + 0) z 1 63 (by omega) (by omega) (by omega)) rfl rfl (Nat.le_of_ble_eq_true rfl) ?_
  refine EV.ifeqB (t := 25) dX7_areThere_7 (by decide) (fun c7 => ?_) (fun c7 => ?_)
  · skip
    have c7r := of_nrg c7
    refine EV.iconst dX7_areThere_25 ?_
    refine EV.zret rfl (by decide) dX7_areThere_26 ?_
    exact rQ (bI_f (setB_f1 (by omega)))
  · skip
    have c7r := of_rg c7
    obtain ⟨a, rfl⟩ : ∃ a : Nat, z = (a : Int) := ⟨z.toNat, by omega⟩
    refine EV.iload_n (i := 1) dX7_areThere_10 rfl rfl ?_
    refine EV.aload_n (i := 0) dX7_areThere_11 rfl rfl ?_
    refine EV.getf fl_X7_41 dX7_areThere_12 hcm rfl ?_
    refine EV.iconst dX7_areThere_15 ?_
    refine EV.ixorW dX7_areThere_16 ?_
    refine EV.iandW dX7_areThere_17 ?_
    refine EV.ifneW (t := 25) dX7_areThere_18 (by decide) (fun c18 => ?_) (fun c18 => ?_)
    · skip
      refine EV.iconst dX7_areThere_25 ?_
      refine EV.zret rfl (by decide) dX7_areThere_26 ?_
      exact rQ (bI_f (setB_f2 (fun y => c18 ((sub0 a (by omega) F.1 hth).mpr y))))
    · skip
      refine EV.iconst dX7_areThere_21 ?_
      refine EV.goto (t := 26) dX7_areThere_22 (by decide) ?_
      refine EV.zret rfl (by decide) dX7_areThere_26 ?_
      exact rQ (bI_t (setB_t (by omega) ((sub0 a (by omega) F.1 hth).mp c18)))
set_option maxHeartbeats 4000000 in
set_option maxRecDepth 20000 in
theorem c_X7_oneDay (d : Nat) (hM : ModAt G h m A F P T K la im ik) (hW : WF F) (a : Nat) (t : Int) (ha : a < 64) (hsub : ∀ q, q < 6 → a.testBit q = true → F.1.testBit q = true) (ht : -1000000 ≤ t ∧ t ≤ 1000000) : CT G l mX7_oneDay (d + 3) 0 0 [.ref m, .int (zI ((a : Int))), .int (zI (t))] h (RQ h (cd F a t)) := by
  refine CT.of (by decide) (Nat.le_of_ble_eq_true rfl) (List.forall_mem_cons.mpr ⟨rfl, List.forall_mem_cons.mpr ⟨rfl, List.forall_mem_cons.mpr ⟨rfl, fun _ h => absurd h List.not_mem_nil⟩⟩⟩) ?_
  refine EV.lvs (lv' := [some (.ref m), some (.int (zI ((a : Int)))), some (.int (zI (t))), none, none]) rfl ?_
  have ⟨hcm, hc0, hc1, hc2, hc3, hc4, hc5, hc6, hc7, hc8, hc9⟩ := hM
  have hth := hW.1
  refine EV.bipush dX7_oneDay_0 (by decide) ?_
  refine EV.istore_n (i := 3) (lv' := [some (.ref m), some (.int (zI ((a : Int)))), some (.int (zI (t))), some (.int (zI ((-6)))), none]) dX7_oneDay_2 rfl (by decide) rfl ?_
  refine EV.iconst dX7_oneDay_3 ?_
  refine EV.istore (i := 4) (lv' := [some (.ref m), some (.int (zI ((a : Int)))), some (.int (zI (t))), some (.int (zI ((-6)))), some (.int (zI (0)))]) dX7_oneDay_4 (by decide) rfl ?_
  have L6 : ∀ (n6 : Nat) (n : Nat) (x3 x4 : Int), (n ≤ 8) → 8 - n < n6 → x3 = cdn F a t n → x4 = (n : Int) → EV G l mX7_oneDay (d + 3) (RQ h (cd F a t)) 6 [some (.ref m), some (.int (zI ((a : Int)))), some (.int (zI (t))), some (.int (zI (x3))), some (.int (zI (x4)))] [] h 0 0 := by
    intro n6
    induction n6 with
    | zero => intro _ _ _ _ hm; exact absurd hm (Nat.not_lt_zero _)
    | succ n6 ih6 =>
      intro n x3 x4 hn hm6 e3 e4
      subst e3 e4
      refine EV.iload (i := 4) dX7_oneDay_6 rfl ?_
      refine EV.bipush dX7_oneDay_8 (by decide) ?_
      refine EV.icmp_ge (t := 38) dX7_oneDay_10 (by decide) (by omega) (fun c10 => ?_) (fun c10 => ?_)
      · skip
        obtain rfl : n = 8 := by omega
        refine EV.iload_n (i := 3) dX7_oneDay_38 rfl rfl ?_
        refine EV.iret rfl dX7_oneDay_39 ?_
        exact rQ rfl
      · skip
        refine EV.aload_n (i := 0) dX7_oneDay_13 rfl rfl ?_
        refine EV.iload_n (i := 1) dX7_oneDay_14 rfl rfl ?_
        refine EV.iload (i := 4) dX7_oneDay_15 rfl ?_
        refine EV.iload_n (i := 2) dX7_oneDay_17 rfl rfl ?_
        refine EV.callVr (M' := mX7_having) (as := [.int (zI ((a : Int))), .int (zI ((n : Int))), .int (zI (t))]) (rest := []) ml_X7_84 im_X7_having se_X7_having rfl co_X7_having dX7_oneDay_18 hcm (c_X7_having (d + 0) hM hW a (n : Int) t (by omega) hsub (by omega) (by omega)) rfl rfl (Nat.le_of_ble_eq_true rfl) ?_
        have hsl := hs_lt F a (n : Int) t
        refine EV.iload_n (i := 1) dX7_oneDay_21 rfl rfl ?_
        refine EV.icmp_ne (t := 30) dX7_oneDay_22 (by decide) (by omega) (fun c22 => ?_) (fun c22 => ?_)
        · skip
          refine EV.iload_n (i := 3) dX7_oneDay_30 rfl rfl ?_
          refine EV.istore_n (i := 3) (lv' := [some (.ref m), some (.int (zI ((a : Int)))), some (.int (zI (t))), some (.int (zI (cdn F a t n))), some (.int (zI ((n : Int))))]) dX7_oneDay_31 rfl (by decide) rfl ?_
          refine EV.iinc (i := 4) (lv' := [some (.ref m), some (.int (zI ((a : Int)))), some (.int (zI (t))), some (.int (zI (cdn F a t n))), some (.int (zI ((n : Int) + 1)))]) dX7_oneDay_32 rfl (by decide) rfl ?_
          refine EV.goto (t := 6) dX7_oneDay_35 (by decide) ?_
          exact ih6 (n + 1) _ _ (by omega) (by omega) (cdn_n (fun y => c22 (by rw [(hs_ah ha hsub).mpr y]))) (rfl)
        · skip
          refine EV.iload (i := 4) dX7_oneDay_25 rfl ?_
          refine EV.goto (t := 31) dX7_oneDay_27 (by decide) ?_
          refine EV.istore_n (i := 3) (lv' := [some (.ref m), some (.int (zI ((a : Int)))), some (.int (zI (t))), some (.int (zI ((n : Int)))), some (.int (zI ((n : Int))))]) dX7_oneDay_31 rfl (by decide) rfl ?_
          refine EV.iinc (i := 4) (lv' := [some (.ref m), some (.int (zI ((a : Int)))), some (.int (zI (t))), some (.int (zI ((n : Int)))), some (.int (zI ((n : Int) + 1)))]) dX7_oneDay_32 rfl (by decide) rfl ?_
          refine EV.goto (t := 6) dX7_oneDay_35 (by decide) ?_
          exact ih6 (n + 1) _ _ (by omega) (by omega) (cdn_y ((hs_ah ha hsub).mp (by omega))) (rfl)
  exact L6 _ 0 _ _ (by omega) (Nat.lt_succ_self _) (by rfl) (by rfl)
set_option maxHeartbeats 4000000 in
set_option maxRecDepth 20000 in
theorem c_X7_sharedBy (d : Nat) (hM : ModAt G h m A F P T K la im ik) (hW : WF F) (p q : Nat) (hp : p < 6) (hq : q < 6) (hbp : F.1.testBit p = true) (hbq : F.1.testBit q = true) (N : Nat) (hN : N ≤ 1000) : CT G l mX7_sharedBy (d + 2) 0 0 [.ref m, .int (zI ((p : Int))), .int (zI ((q : Int))), .int (zI ((N : Int)))] h (RQ h ((shr F p q N : Int))) := by
  refine CT.of (by decide) (Nat.le_of_ble_eq_true rfl) (List.forall_mem_cons.mpr ⟨rfl, List.forall_mem_cons.mpr ⟨rfl, List.forall_mem_cons.mpr ⟨rfl, List.forall_mem_cons.mpr ⟨rfl, fun _ h => absurd h List.not_mem_nil⟩⟩⟩⟩) ?_
  refine EV.lvs (lv' := [some (.ref m), some (.int (zI ((p : Int)))), some (.int (zI ((q : Int)))), some (.int (zI ((N : Int)))), none, none]) rfl ?_
  have ⟨hcm, hc0, hc1, hc2, hc3, hc4, hc5, hc6, hc7, hc8, hc9⟩ := hM
  have hth := hW.1
  refine EV.iconst dX7_sharedBy_0 ?_
  refine EV.istore (i := 4) (lv' := [some (.ref m), some (.int (zI ((p : Int)))), some (.int (zI ((q : Int)))), some (.int (zI ((N : Int)))), some (.int (zI (0))), none]) dX7_sharedBy_1 (by decide) rfl ?_
  refine EV.iconst dX7_sharedBy_3 ?_
  refine EV.istore (i := 5) (lv' := [some (.ref m), some (.int (zI ((p : Int)))), some (.int (zI ((q : Int)))), some (.int (zI ((N : Int)))), some (.int (zI (0))), some (.int (zI (0)))]) dX7_sharedBy_4 (by decide) rfl ?_
  have L6 : ∀ (n6 : Nat) (t : Nat) (x4 x5 : Int), (t ≤ N) → N - t < n6 → x4 = ((cnt (shB F p q) t : Nat) : Int) → x5 = (t : Int) → EV G l mX7_sharedBy (d + 2) (RQ h ((shr F p q N : Int))) 6 [some (.ref m), some (.int (zI ((p : Int)))), some (.int (zI ((q : Int)))), some (.int (zI ((N : Int)))), some (.int (zI (x4))), some (.int (zI (x5)))] [] h 0 0 := by
    intro n6
    induction n6 with
    | zero => intro _ _ _ _ hm; exact absurd hm (Nat.not_lt_zero _)
    | succ n6 ih6 =>
      intro t x4 x5 htN hm6 e4 e5
      subst e4 e5
      have hcl := cnt_le (shB F p q) t
      refine EV.iload (i := 5) dX7_sharedBy_6 rfl ?_
      refine EV.iload_n (i := 3) dX7_sharedBy_8 rfl rfl ?_
      refine EV.icmp_ge (t := 45) dX7_sharedBy_9 (by decide) (by omega) (fun c9 => ?_) (fun c9 => ?_)
      · skip
        obtain rfl : t = N := by omega
        refine EV.iload (i := 4) dX7_sharedBy_45 rfl ?_
        refine EV.iret rfl dX7_sharedBy_47 ?_
        exact rQ rfl
      · skip
        refine EV.iload (i := 4) dX7_sharedBy_12 rfl ?_
        refine EV.aload_n (i := 0) dX7_sharedBy_14 rfl rfl ?_
        refine EV.iload_n (i := 1) dX7_sharedBy_15 rfl rfl ?_
        refine EV.iload (i := 5) dX7_sharedBy_16 rfl ?_
        refine EV.callVr (M' := mX7_dayOf) (as := [.int (zI ((p : Int))), .int (zI ((t : Int)))]) (rest := [.int (zI (((cnt (shB F p q) t : Nat) : Int)))]) ml_X7_80 im_X7_dayOf se_X7_dayOf rfl co_X7_dayOf dX7_sharedBy_18 hcm (c_X7_dayOf (d + 0) hM hW p (t : Int) hp hbp (by omega)) rfl rfl (Nat.le_of_ble_eq_true rfl) ?_
        have hr1 := hW.dy hp hbp (t : Int)
        refine EV.aload_n (i := 0) dX7_sharedBy_21 rfl rfl ?_
        refine EV.iload_n (i := 2) dX7_sharedBy_22 rfl rfl ?_
        refine EV.iload (i := 5) dX7_sharedBy_23 rfl ?_
        refine EV.callVr (M' := mX7_dayOf) (as := [.int (zI ((q : Int))), .int (zI ((t : Int)))]) (rest := [.int (zI (dy F p (t : Int))), .int (zI (((cnt (shB F p q) t : Nat) : Int)))]) ml_X7_80 im_X7_dayOf se_X7_dayOf rfl co_X7_dayOf dX7_sharedBy_25 hcm (c_X7_dayOf (d + 0) hM hW q (t : Int) hq hbq (by omega)) rfl rfl (Nat.le_of_ble_eq_true rfl) ?_
        have hr2 := hW.dy hq hbq (t : Int)
        refine EV.icmp_ne (t := 35) dX7_sharedBy_28 (by decide) (by omega) (fun c28 => ?_) (fun c28 => ?_)
        · skip
          refine EV.iconst dX7_sharedBy_35 ?_
          refine EV.iadd dX7_sharedBy_36 ?_
          refine EV.istore (i := 4) (lv' := [some (.ref m), some (.int (zI ((p : Int)))), some (.int (zI ((q : Int)))), some (.int (zI ((N : Int)))), some (.int (zI ((((cnt (shB F p q) t : Nat) : Int) + 0)))), some (.int (zI ((t : Int))))]) dX7_sharedBy_37 (by decide) rfl ?_
          refine EV.iinc (i := 5) (lv' := [some (.ref m), some (.int (zI ((p : Int)))), some (.int (zI ((q : Int)))), some (.int (zI ((N : Int)))), some (.int (zI ((((cnt (shB F p q) t : Nat) : Int) + 0)))), some (.int (zI ((t : Int) + 1)))]) dX7_sharedBy_39 rfl (by decide) rfl ?_
          refine EV.goto (t := 6) dX7_sharedBy_42 (by decide) ?_
          exact ih6 (t + 1) _ _ (by omega) (by omega) (by rw [Int.add_zero]; exact cnt_n (f := shB F p q) (decide_eq_false c28)) (by rfl)
        · skip
          refine EV.iconst dX7_sharedBy_31 ?_
          refine EV.goto (t := 36) dX7_sharedBy_32 (by decide) ?_
          refine EV.iadd dX7_sharedBy_36 ?_
          refine EV.istore (i := 4) (lv' := [some (.ref m), some (.int (zI ((p : Int)))), some (.int (zI ((q : Int)))), some (.int (zI ((N : Int)))), some (.int (zI ((((cnt (shB F p q) t : Nat) : Int) + 1)))), some (.int (zI ((t : Int))))]) dX7_sharedBy_37 (by decide) rfl ?_
          refine EV.iinc (i := 5) (lv' := [some (.ref m), some (.int (zI ((p : Int)))), some (.int (zI ((q : Int)))), some (.int (zI ((N : Int)))), some (.int (zI ((((cnt (shB F p q) t : Nat) : Int) + 1)))), some (.int (zI ((t : Int) + 1)))]) dX7_sharedBy_39 rfl (by decide) rfl ?_
          refine EV.goto (t := 6) dX7_sharedBy_42 (by decide) ?_
          exact ih6 (t + 1) _ _ (by omega) (by omega) (cnt_y (f := shB F p q) (decide_eq_true c28)) (by rfl)
  exact L6 _ 0 _ _ (by omega) (Nat.lt_succ_self _) (by rfl) (by rfl)
set_option maxHeartbeats 4000000 in
set_option maxRecDepth 20000 in
theorem c_X7_isWork (d : Nat) (hM : ModAt G h m A F P T K la im ik) (hW : WF F) (z : Int) (hz : inR z) (hP : WFP P) : CT G l mX7_isWork (d + 2) 0 0 [.ref m, .int (zI (z))] h (RQ h (bI (rg z 0 ((P.1 : Int) - 1)))) := by
  refine CT.of (by decide) (Nat.le_of_ble_eq_true rfl) (List.forall_mem_cons.mpr ⟨rfl, List.forall_mem_cons.mpr ⟨rfl, fun _ h => absurd h List.not_mem_nil⟩⟩) ?_
  refine EV.lvs (lv' := [some (.ref m), some (.int (zI (z)))]) rfl ?_
  have ⟨hcm, hc0, hc1, hc2, hc3, hc4, hc5, hc6, hc7, hc8, hc9⟩ := hM
  have hth := hW.1
  have hP6 := hP.1
  refine EV.iload_n (i := 1) dX7_isWork_0 rfl rfl ?_
  refine EV.iconst dX7_isWork_1 ?_
  refine EV.aload_n (i := 0) dX7_isWork_2 rfl rfl ?_
  refine EV.getf fl_X7_74 dX7_isWork_3 hcm rfl ?_
  refine EV.iconst dX7_isWork_6 ?_
  refine EV.isub dX7_isWork_7 ?_
  refine EV.callSr (M' := mX7_in) (as := [.int (zI (z)), .int (zI (0)), .int (zI (((P.1 : Int) - 1)))]) (rest := []) ml_X7_45 sm_X7_in co_X7_in dX7_isWork_8 (c_X7_in (d + 0) z 0 ((P.1 : Int) - 1) (by omega) (by omega) (by omega)) rfl rfl (Nat.le_of_ble_eq_true rfl) ?_
  refine EV.zret rfl (nar_bI _) dX7_isWork_11 ?_
  exact rQ rfl
set_option maxHeartbeats 4000000 in
set_option maxRecDepth 20000 in
theorem c_X7_canBe (d : Nat) (hM : ModAt G h m A F P T K la im ik) (hW : WF F) (w : Nat) (t : Int) (hP : WFP P) (hw : w < P.1) (ht : -1000000 ≤ t ∧ t ≤ 1000000) : CT G l mX7_canBe (d + 3) 0 0 [.ref m, .int (zI ((w : Int))), .int (zI (t))] h (RQ h (bI (ah F (P.2.2 w) (P.2.1 w) t))) := by
  refine CT.of (by decide) (Nat.le_of_ble_eq_true rfl) (List.forall_mem_cons.mpr ⟨rfl, List.forall_mem_cons.mpr ⟨rfl, List.forall_mem_cons.mpr ⟨rfl, fun _ h => absurd h List.not_mem_nil⟩⟩⟩) ?_
  refine EV.lvs (lv' := [some (.ref m), some (.int (zI ((w : Int)))), some (.int (zI (t)))]) rfl ?_
  have ⟨hcm, hc0, hc1, hc2, hc3, hc4, hc5, hc6, hc7, hc8, hc9⟩ := hM
  have hth := hW.1
  have hP6 := hP.1
  obtain ⟨hwd, hwo, hwp⟩ := hP.2 w hw
  refine EV.aload_n (i := 0) dX7_canBe_0 rfl rfl ?_
  refine EV.getf fl_X7_22 dX7_canBe_1 hcm rfl ?_
  refine EV.iload_n (i := 1) dX7_canBe_4 rfl rfl ?_
  refine EV.iald dX7_canBe_5 hc4 (w) (rfl) (by omega) ?_
  refine EV.top (y := zI ((P.2.2 w : Int))) (rfl) ?_
  refine EV.aload_n (i := 0) dX7_canBe_6 rfl rfl ?_
  refine EV.getf fl_X7_41 dX7_canBe_7 hcm rfl ?_
  refine EV.iconst dX7_canBe_10 ?_
  refine EV.ixorW dX7_canBe_11 ?_
  refine EV.iandW dX7_canBe_12 ?_
  refine EV.ifneW (t := 46) dX7_canBe_13 (by decide) (fun c13 => ?_) (fun c13 => ?_)
  · skip
    refine EV.iconst dX7_canBe_46 ?_
    refine EV.zret rfl (by decide) dX7_canBe_47 ?_
    exact rQ (bI_f (ah_sub hwp (fun y => c13 ((sub0 _ hwp F.1 hth).mpr y))))
  · skip
    have hsub := sub_bit ((sub0 (P.2.2 w) hwp F.1 hth).mp c13)
    refine EV.aload_n (i := 0) dX7_canBe_16 rfl rfl ?_
    refine EV.aload_n (i := 0) dX7_canBe_17 rfl rfl ?_
    refine EV.getf fl_X7_22 dX7_canBe_18 hcm rfl ?_
    refine EV.iload_n (i := 1) dX7_canBe_21 rfl rfl ?_
    refine EV.iald dX7_canBe_22 hc4 (w) (rfl) (by omega) ?_
    refine EV.top (y := zI ((P.2.2 w : Int))) (rfl) ?_
    refine EV.aload_n (i := 0) dX7_canBe_23 rfl rfl ?_
    refine EV.getf fl_X7_19 dX7_canBe_24 hcm rfl ?_
    refine EV.iload_n (i := 1) dX7_canBe_27 rfl rfl ?_
    refine EV.iald dX7_canBe_28 hc3 (w) (rfl) (by omega) ?_
    refine EV.iload_n (i := 2) dX7_canBe_29 rfl rfl ?_
    refine EV.callVr (M' := mX7_having) (as := [.int (zI ((P.2.2 w : Int))), .int (zI (P.2.1 w)), .int (zI (t))]) (rest := []) ml_X7_84 im_X7_having se_X7_having rfl co_X7_having dX7_canBe_30 hcm (c_X7_having (d + 0) hM hW (P.2.2 w) (P.2.1 w) t (by omega) hsub (by omega) (by omega)) rfl rfl (Nat.le_of_ble_eq_true rfl) ?_
    have hsl := hs_lt F (P.2.2 w) (P.2.1 w) t
    refine EV.aload_n (i := 0) dX7_canBe_33 rfl rfl ?_
    refine EV.getf fl_X7_22 dX7_canBe_34 hcm rfl ?_
    refine EV.iload_n (i := 1) dX7_canBe_37 rfl rfl ?_
    refine EV.iald dX7_canBe_38 hc4 (w) (rfl) (by omega) ?_
    refine EV.top (y := zI ((P.2.2 w : Int))) (rfl) ?_
    refine EV.icmp_ne (t := 46) dX7_canBe_39 (by decide) (by omega) (fun c39 => ?_) (fun c39 => ?_)
    · skip
      refine EV.iconst dX7_canBe_46 ?_
      refine EV.zret rfl (by decide) dX7_canBe_47 ?_
      exact rQ (bI_f (Bool.eq_false_iff.mpr (fun y => c39 (by rw [(hs_ah hwp hsub).mpr y]))))
    · skip
      refine EV.iconst dX7_canBe_42 ?_
      refine EV.goto (t := 47) dX7_canBe_43 (by decide) ?_
      refine EV.zret rfl (by decide) dX7_canBe_47 ?_
      exact rQ (bI_t ((hs_ah hwp hsub).mp (by omega)))
set_option maxHeartbeats 4000000 in
set_option maxRecDepth 20000 in
theorem c_X7_isBarred (d : Nat) (hM : ModAt G h m A F P T K la im ik) (hW : WF F) (w : Nat) (hP : WFP P) (hw : w < P.1) : CT G l mX7_isBarred (d + 4) 0 0 [.ref m, .int (zI ((w : Int)))] h (RQ h (bI (!(ev F (P.2.2 w) (P.2.1 w))))) := by
  refine CT.of (by decide) (Nat.le_of_ble_eq_true rfl) (List.forall_mem_cons.mpr ⟨rfl, List.forall_mem_cons.mpr ⟨rfl, fun _ h => absurd h List.not_mem_nil⟩⟩) ?_
  refine EV.lvs (lv' := [some (.ref m), some (.int (zI ((w : Int)))), none, none]) rfl ?_
  have ⟨hcm, hc0, hc1, hc2, hc3, hc4, hc5, hc6, hc7, hc8, hc9⟩ := hM
  have hth := hW.1
  have hP6 := hP.1
  refine EV.iconst dX7_isBarred_0 ?_
  refine EV.istore_n (i := 2) (lv' := [some (.ref m), some (.int (zI ((w : Int)))), some (.int (zI (1))), none]) dX7_isBarred_1 rfl (by decide) rfl ?_
  refine EV.iconst dX7_isBarred_2 ?_
  refine EV.istore_n (i := 3) (lv' := [some (.ref m), some (.int (zI ((w : Int)))), some (.int (zI (1))), some (.int (zI (0)))]) dX7_isBarred_3 rfl (by decide) rfl ?_
  have L4 : ∀ (n4 : Nat) (t : Nat) (x2 x3 : Int), (t ≤ 840) → 840 - t < n4 → x2 = bI (alln (fun t : Nat => !(ah F (P.2.2 w) (P.2.1 w) (t : Int))) t) → x3 = (t : Int) → EV G l mX7_isBarred (d + 4) (RQ h (bI (!(ev F (P.2.2 w) (P.2.1 w))))) 4 [some (.ref m), some (.int (zI ((w : Int)))), some (.int (zI (x2))), some (.int (zI (x3)))] [] h 0 0 := by
    intro n4
    induction n4 with
    | zero => intro _ _ _ _ hm; exact absurd hm (Nat.not_lt_zero _)
    | succ n4 ih4 =>
      intro t x2 x3 ht hm4 e2 e3
      subst e2 e3
      refine EV.iload_n (i := 3) dX7_isBarred_4 rfl rfl ?_
      refine EV.sipush dX7_isBarred_5 (by decide) ?_
      refine EV.icmp_ge (t := 36) dX7_isBarred_8 (by decide) (by omega) (fun c8 => ?_) (fun c8 => ?_)
      · skip
        obtain rfl : t = 840 := by omega
        refine EV.iload_n (i := 2) dX7_isBarred_36 rfl rfl ?_
        refine EV.zret rfl (nar_bI _) dX7_isBarred_37 ?_
        exact rQ (by rw [ev_not])
      · skip
        refine EV.iload_n (i := 2) dX7_isBarred_11 rfl rfl ?_
        refine EV.ifeqB (t := 36) dX7_isBarred_12 (by decide) (fun c12 => ?_) (fun c12 => ?_)
        · skip
          refine EV.iload_n (i := 2) dX7_isBarred_36 rfl rfl ?_
          refine EV.zret rfl (nar_bI _) dX7_isBarred_37 ?_
          exact rQ (by rw [ev_not, c12, alln_up c12 (by omega)])
        · skip
          refine EV.aload_n (i := 0) dX7_isBarred_15 rfl rfl ?_
          refine EV.iload_n (i := 1) dX7_isBarred_16 rfl rfl ?_
          refine EV.iload_n (i := 3) dX7_isBarred_17 rfl rfl ?_
          refine EV.callVr (M' := mX7_canBe) (as := [.int (zI ((w : Int))), .int (zI ((t : Int)))]) (rest := []) ml_X7_100 im_X7_canBe se_X7_canBe rfl co_X7_canBe dX7_isBarred_18 hcm (c_X7_canBe (d + 0) hM hW w (t : Int) hP (by omega) (by omega)) rfl rfl (Nat.le_of_ble_eq_true rfl) ?_
          refine EV.ifneB (t := 28) dX7_isBarred_21 (by decide) (fun c21 => ?_) (fun c21 => ?_)
          · skip
            refine EV.iconst dX7_isBarred_28 ?_
            refine EV.istore_n (i := 2) (lv' := [some (.ref m), some (.int (zI ((w : Int)))), some (.int (zI (0))), some (.int (zI ((t : Int))))]) dX7_isBarred_29 rfl (by decide) rfl ?_
            refine EV.iinc (i := 3) (lv' := [some (.ref m), some (.int (zI ((w : Int)))), some (.int (zI (0))), some (.int (zI ((t : Int) + 1)))]) dX7_isBarred_30 rfl (by decide) rfl ?_
            refine EV.goto (t := 4) dX7_isBarred_33 (by decide) ?_
            exact ih4 (t + 1) _ _ (by omega) (by omega) (bI_f (alln_s0 (by simp [c21]))) (rfl)
          · skip
            refine EV.iconst dX7_isBarred_24 ?_
            refine EV.goto (t := 29) dX7_isBarred_25 (by decide) ?_
            refine EV.istore_n (i := 2) (lv' := [some (.ref m), some (.int (zI ((w : Int)))), some (.int (zI (1))), some (.int (zI ((t : Int))))]) dX7_isBarred_29 rfl (by decide) rfl ?_
            refine EV.iinc (i := 3) (lv' := [some (.ref m), some (.int (zI ((w : Int)))), some (.int (zI (1))), some (.int (zI ((t : Int) + 1)))]) dX7_isBarred_30 rfl (by decide) rfl ?_
            refine EV.goto (t := 4) dX7_isBarred_33 (by decide) ?_
            exact ih4 (t + 1) _ _ (by omega) (by omega) (bI_t (alln_s1 c12 (by simp [c21]))) (rfl)
  exact L4 _ 0 _ _ (by omega) (Nat.lt_succ_self _) (by rfl) (by rfl)
set_option maxHeartbeats 4000000 in
set_option maxRecDepth 20000 in
theorem c_X7_haveAtOnce (d : Nat) (hM : ModAt G h m A F P T K la im ik) (hW : WF F) (a : Nat) (D : Int) (ha : a < 64) (hsub : ∀ q, q < 6 → a.testBit q = true → F.1.testBit q = true) (hD : 0 ≤ D ∧ D ≤ 7) : CT G l mX7_haveAtOnce (d + 3) 0 0 [.ref m, .int (zI ((a : Int))), .int (zI (D))] h (RQ h (bI (ev F a D))) := by
  refine CT.of (by decide) (Nat.le_of_ble_eq_true rfl) (List.forall_mem_cons.mpr ⟨rfl, List.forall_mem_cons.mpr ⟨rfl, List.forall_mem_cons.mpr ⟨rfl, fun _ h => absurd h List.not_mem_nil⟩⟩⟩) ?_
  refine EV.lvs (lv' := [some (.ref m), some (.int (zI ((a : Int)))), some (.int (zI (D))), none, none]) rfl ?_
  have ⟨hcm, hc0, hc1, hc2, hc3, hc4, hc5, hc6, hc7, hc8, hc9⟩ := hM
  have hth := hW.1
  refine EV.iconst dX7_haveAtOnce_0 ?_
  refine EV.istore_n (i := 3) (lv' := [some (.ref m), some (.int (zI ((a : Int)))), some (.int (zI (D))), some (.int (zI (0))), none]) dX7_haveAtOnce_1 rfl (by decide) rfl ?_
  refine EV.iconst dX7_haveAtOnce_2 ?_
  refine EV.istore (i := 4) (lv' := [some (.ref m), some (.int (zI ((a : Int)))), some (.int (zI (D))), some (.int (zI (0))), some (.int (zI (0)))]) dX7_haveAtOnce_3 (by decide) rfl ?_
  have L5 : ∀ (n5 : Nat) (t : Nat) (x3 x4 : Int), (t ≤ 840) → 840 - t < n5 → x3 = bI (exn (fun t : Nat => ah F a D (t : Int)) t) → x4 = (t : Int) → EV G l mX7_haveAtOnce (d + 3) (RQ h (bI (ev F a D))) 5 [some (.ref m), some (.int (zI ((a : Int)))), some (.int (zI (D))), some (.int (zI (x3))), some (.int (zI (x4)))] [] h 0 0 := by
    intro n5
    induction n5 with
    | zero => intro _ _ _ _ hm; exact absurd hm (Nat.not_lt_zero _)
    | succ n5 ih5 =>
      intro t x3 x4 ht hm5 e3 e4
      subst e3 e4
      refine EV.iload (i := 4) dX7_haveAtOnce_5 rfl ?_
      refine EV.sipush dX7_haveAtOnce_7 (by decide) ?_
      refine EV.icmp_ge (t := 41) dX7_haveAtOnce_10 (by decide) (by omega) (fun c10 => ?_) (fun c10 => ?_)
      · skip
        obtain rfl : t = 840 := by omega
        refine EV.iload_n (i := 3) dX7_haveAtOnce_41 rfl rfl ?_
        refine EV.zret rfl (nar_bI _) dX7_haveAtOnce_42 ?_
        exact rQ rfl
      · skip
        refine EV.iload_n (i := 3) dX7_haveAtOnce_13 rfl rfl ?_
        refine EV.ifneB (t := 41) dX7_haveAtOnce_14 (by decide) (fun c14 => ?_) (fun c14 => ?_)
        · skip
          refine EV.iload_n (i := 3) dX7_haveAtOnce_41 rfl rfl ?_
          refine EV.zret rfl (nar_bI _) dX7_haveAtOnce_42 ?_
          exact rQ (by rw [c14, ev, exn_up c14 (by omega)])
        · skip
          refine EV.aload_n (i := 0) dX7_haveAtOnce_17 rfl rfl ?_
          refine EV.iload_n (i := 1) dX7_haveAtOnce_18 rfl rfl ?_
          refine EV.iload_n (i := 2) dX7_haveAtOnce_19 rfl rfl ?_
          refine EV.iload (i := 4) dX7_haveAtOnce_20 rfl ?_
          refine EV.callVr (M' := mX7_having) (as := [.int (zI ((a : Int))), .int (zI (D)), .int (zI ((t : Int)))]) (rest := []) ml_X7_84 im_X7_having se_X7_having rfl co_X7_having dX7_haveAtOnce_22 hcm (c_X7_having (d + 0) hM hW a D (t : Int) (by omega) hsub (by omega) (by omega)) rfl rfl (Nat.le_of_ble_eq_true rfl) ?_
          have hsl := hs_lt F a D (t : Int)
          refine EV.iload_n (i := 1) dX7_haveAtOnce_25 rfl rfl ?_
          refine EV.icmp_ne (t := 33) dX7_haveAtOnce_26 (by decide) (by omega) (fun c26 => ?_) (fun c26 => ?_)
          · skip
            refine EV.iconst dX7_haveAtOnce_33 ?_
            refine EV.istore_n (i := 3) (lv' := [some (.ref m), some (.int (zI ((a : Int)))), some (.int (zI (D))), some (.int (zI (0))), some (.int (zI ((t : Int))))]) dX7_haveAtOnce_34 rfl (by decide) rfl ?_
            refine EV.iinc (i := 4) (lv' := [some (.ref m), some (.int (zI ((a : Int)))), some (.int (zI (D))), some (.int (zI (0))), some (.int (zI ((t : Int) + 1)))]) dX7_haveAtOnce_35 rfl (by decide) rfl ?_
            refine EV.goto (t := 5) dX7_haveAtOnce_38 (by decide) ?_
            exact ih5 (t + 1) _ _ (by omega) (by omega) (bI_f (exn_s0 c14 (Bool.eq_false_iff.mpr (fun y => c26 (by rw [(hs_ah ha hsub).mpr y]))))) (rfl)
          · skip
            refine EV.iconst dX7_haveAtOnce_29 ?_
            refine EV.goto (t := 34) dX7_haveAtOnce_30 (by decide) ?_
            refine EV.istore_n (i := 3) (lv' := [some (.ref m), some (.int (zI ((a : Int)))), some (.int (zI (D))), some (.int (zI (1))), some (.int (zI ((t : Int))))]) dX7_haveAtOnce_34 rfl (by decide) rfl ?_
            refine EV.iinc (i := 4) (lv' := [some (.ref m), some (.int (zI ((a : Int)))), some (.int (zI (D))), some (.int (zI (1))), some (.int (zI ((t : Int) + 1)))]) dX7_haveAtOnce_35 rfl (by decide) rfl ?_
            refine EV.goto (t := 5) dX7_haveAtOnce_38 (by decide) ?_
            exact ih5 (t + 1) _ _ (by omega) (by omega) (bI_t (exn_s1 ((hs_ah ha hsub).mp (by omega)))) (rfl)
  exact L5 _ 0 _ _ (by omega) (Nat.lt_succ_self _) (by rfl) (by rfl)
set_option maxHeartbeats 4000000 in
set_option maxRecDepth 20000 in
theorem c_X7_costOf (d : Nat) (hM : ModAt G h m A F P T K la im ik) (hW : WF F) (p q : Nat) (hp : p < 6) (hq : q < 6) (hbp : F.1.testBit p = true) (hbq : F.1.testBit q = true) : CT G l mX7_costOf (d + 3) 0 0 [.ref m, .int (zI ((p : Int))), .int (zI ((q : Int)))] h (RQ h (cst F p q)) := by
  refine CT.of (by decide) (Nat.le_of_ble_eq_true rfl) (List.forall_mem_cons.mpr ⟨rfl, List.forall_mem_cons.mpr ⟨rfl, List.forall_mem_cons.mpr ⟨rfl, fun _ h => absurd h List.not_mem_nil⟩⟩⟩) ?_
  refine EV.lvs (lv' := [some (.ref m), some (.int (zI ((p : Int)))), some (.int (zI ((q : Int))))]) rfl ?_
  have ⟨hcm, hc0, hc1, hc2, hc3, hc4, hc5, hc6, hc7, hc8, hc9⟩ := hM
  have hth := hW.1
  refine EV.bipush dX7_costOf_0 (by decide) ?_
  refine EV.aload_n (i := 0) dX7_costOf_2 rfl rfl ?_
  refine EV.iload_n (i := 1) dX7_costOf_3 rfl rfl ?_
  refine EV.iload_n (i := 2) dX7_costOf_4 rfl rfl ?_
  refine EV.bipush dX7_costOf_5 (by decide) ?_
  refine EV.callVr (M' := mX7_sharedBy) (as := [.int (zI ((p : Int))), .int (zI ((q : Int))), .int (zI (28))]) (rest := [.int (zI (28))]) ml_X7_94 im_X7_sharedBy se_X7_sharedBy rfl co_X7_sharedBy dX7_costOf_7 hcm (c_X7_sharedBy (d + 0) hM hW p q hp hq hbp hbq 28 (by omega)) rfl rfl (Nat.le_of_ble_eq_true rfl) ?_
  have hsl := shr_le F p q 28
  refine EV.isub dX7_costOf_10 ?_
  refine EV.iret rfl dX7_costOf_11 ?_
  exact rQ rfl
set_option maxHeartbeats 4000000 in
set_option maxRecDepth 20000 in
theorem c_X7_turned (d : Nat) {h : Hp} (w k : Int) (hw : 0 ≤ w ∧ w ≤ 13) (hk : -1000000 ≤ k ∧ k ≤ 1000000) : CT G l mX7_turned (d + 1) 0 0 [.int (zI (w)), .int (zI (k))] h (RQ h (tn w k)) := by
  refine CT.of (by decide) (Nat.le_of_ble_eq_true rfl) (List.forall_mem_cons.mpr ⟨rfl, List.forall_mem_cons.mpr ⟨rfl, fun _ h => absurd h List.not_mem_nil⟩⟩) ?_
  refine EV.lvs (lv' := [some (.int (zI (w))), some (.int (zI (k))), none, none]) rfl ?_
  refine EV.iload_n (i := 1) dX7_turned_0 rfl rfl ?_
  refine EV.bipush dX7_turned_1 (by decide) ?_
  have hb1 := tm_bnd7 k
  refine EV.irem dX7_turned_3 (by omega) ?_
  refine EV.bipush dX7_turned_4 (by decide) ?_
  refine EV.iadd dX7_turned_6 ?_
  refine EV.bipush dX7_turned_7 (by decide) ?_
  refine EV.irem dX7_turned_9 (by omega) ?_
  refine EV.top (y := zI ((k % 7))) (by rw [mo_mod7]) ?_
  refine EV.istore_n (i := 2) (lv' := [some (.int (zI (w))), some (.int (zI (k))), some (.int (zI ((k % 7)))), none]) dX7_turned_10 rfl (by decide) rfl ?_
  refine EV.iload_n (i := 0) dX7_turned_11 rfl rfl ?_
  refine EV.bipush dX7_turned_12 (by decide) ?_
  refine EV.irem dX7_turned_14 (by omega) ?_
  refine EV.top (y := zI ((w % 7))) (by rw [Int.tmod_eq_emod_of_nonneg hw.1]) ?_
  refine EV.istore_n (i := 3) (lv' := [some (.int (zI (w))), some (.int (zI (k))), some (.int (zI ((k % 7)))), some (.int (zI ((w % 7))))]) dX7_turned_15 rfl (by decide) rfl ?_
  refine EV.iload_n (i := 0) dX7_turned_16 rfl rfl ?_
  refine EV.bipush dX7_turned_17 (by decide) ?_
  refine EV.icmp_ge (t := 31) dX7_turned_19 (by decide) (by omega) (fun c19 => ?_) (fun c19 => ?_)
  · skip
    refine EV.iload_n (i := 3) dX7_turned_31 rfl rfl ?_
    refine EV.bipush dX7_turned_32 (by decide) ?_
    refine EV.iadd dX7_turned_34 ?_
    refine EV.iload_n (i := 2) dX7_turned_35 rfl rfl ?_
    refine EV.isub dX7_turned_36 ?_
    refine EV.bipush dX7_turned_37 (by decide) ?_
    refine EV.irem dX7_turned_39 (by omega) ?_
    refine EV.iret rfl dX7_turned_40 ?_
    exact rQ (by rw [tn, if_neg (by omega), Int.tmod_eq_emod_of_nonneg (by omega)])
  · skip
    refine EV.iload_n (i := 3) dX7_turned_22 rfl rfl ?_
    refine EV.iload_n (i := 2) dX7_turned_23 rfl rfl ?_
    refine EV.iadd dX7_turned_24 ?_
    refine EV.bipush dX7_turned_25 (by decide) ?_
    refine EV.irem dX7_turned_27 (by omega) ?_
    refine EV.goto (t := 40) dX7_turned_28 (by decide) ?_
    refine EV.iret rfl dX7_turned_40 ?_
    exact rQ (by rw [tn, if_pos (by omega), Int.tmod_eq_emod_of_nonneg (by omega)])
set_option maxHeartbeats 4000000 in
set_option maxRecDepth 20000 in
theorem c_X7_feastOn (d : Nat) (hM : ModAt G h m A F P T K la im ik) (hW : WF F) (t : Int) (ht : -1000000 ≤ t ∧ t ≤ 1000000) : CT G l mX7_feastOn (d + 3) 0 0 [.ref m, .int (zI (t))] h (RQ h (ft F t)) := by
  refine CT.of (by decide) (Nat.le_of_ble_eq_true rfl) (List.forall_mem_cons.mpr ⟨rfl, List.forall_mem_cons.mpr ⟨rfl, fun _ h => absurd h List.not_mem_nil⟩⟩) ?_
  refine EV.lvs (lv' := [some (.ref m), some (.int (zI (t))), none, none, none, none]) rfl ?_
  have ⟨hcm, hc0, hc1, hc2, hc3, hc4, hc5, hc6, hc7, hc8, hc9⟩ := hM
  have hth := hW.1
  have hsub : ∀ q, q < 6 → F.1.testBit q = true → F.1.testBit q = true := fun _ _ z => z
  refine EV.bipush dX7_feastOn_0 (by decide) ?_
  refine EV.istore_n (i := 2) (lv' := [some (.ref m), some (.int (zI (t))), some (.int (zI ((-6)))), none, none, none]) dX7_feastOn_2 rfl (by decide) rfl ?_
  refine EV.iconst dX7_feastOn_3 ?_
  refine EV.istore_n (i := 3) (lv' := [some (.ref m), some (.int (zI (t))), some (.int (zI ((-6)))), some (.int (zI (0))), none, none]) dX7_feastOn_4 rfl (by decide) rfl ?_
  refine EV.iconst dX7_feastOn_5 ?_
  refine EV.istore (i := 4) (lv' := [some (.ref m), some (.int (zI (t))), some (.int (zI ((-6)))), some (.int (zI (0))), some (.int (zI (0))), none]) dX7_feastOn_6 (by decide) rfl ?_
  have L8 : ∀ (n8 : Nat) (n : Nat) (x2 x3 x4 : Int), (n ≤ 8) → 8 - n < n8 → x2 = (fst2 F t n).2 → x3 = (fst2 F t n).1 → x4 = (n : Int) → EV G l mX7_feastOn (d + 3) (RQ h (ft F t)) 8 [some (.ref m), some (.int (zI (t))), some (.int (zI (x2))), some (.int (zI (x3))), some (.int (zI (x4))), none] [] h 0 0 := by
    intro n8
    induction n8 with
    | zero => intro _ _ _ _ _ hm; exact absurd hm (Nat.not_lt_zero _)
    | succ n8 ih8 =>
      intro n x2 x3 x4 hn hm8 e2 e3 e4
      subst e2 e3 e4
      have hfi := fst2_in F t n
      have hcl := cnt_le (hvB F (n : Int) t) 6
      refine EV.iload (i := 4) dX7_feastOn_8 rfl ?_
      refine EV.bipush dX7_feastOn_10 (by decide) ?_
      refine EV.icmp_ge (t := 63) dX7_feastOn_12 (by decide) (by omega) (fun c12 => ?_) (fun c12 => ?_)
      · skip
        obtain rfl : n = 8 := by omega
        refine EV.iload_n (i := 2) dX7_feastOn_63 rfl rfl ?_
        refine EV.iret rfl dX7_feastOn_64 ?_
        exact rQ rfl
      · skip
        refine EV.aload_n (i := 0) dX7_feastOn_15 rfl rfl ?_
        refine EV.aload_n (i := 0) dX7_feastOn_16 rfl rfl ?_
        refine EV.getf fl_X7_41 dX7_feastOn_17 hcm rfl ?_
        refine EV.iload (i := 4) dX7_feastOn_20 rfl ?_
        refine EV.iload_n (i := 1) dX7_feastOn_22 rfl rfl ?_
        refine EV.callVr (M' := mX7_having) (as := [.int (zI ((F.1 : Int))), .int (zI ((n : Int))), .int (zI (t))]) (rest := []) ml_X7_84 im_X7_having se_X7_having rfl co_X7_having dX7_feastOn_23 hcm (c_X7_having (d + 0) hM hW F.1 (n : Int) t (by omega) hsub (by omega) (by omega)) rfl rfl (Nat.le_of_ble_eq_true rfl) ?_
        have hsl := hs_lt F F.1 (n : Int) t
        refine EV.callSr (M' := mX7_bits) (as := [.int (zI ((hs F F.1 (n : Int) t : Int)))]) (rest := []) ml_X7_70 sm_X7_bits co_X7_bits dX7_feastOn_26 (c_X7_bits (d + 1) (hs F F.1 (n : Int) t) (by omega)) rfl rfl (Nat.le_of_ble_eq_true rfl) ?_
        refine EV.top (y := zI (((cnt (hvB F (n : Int) t) 6 : Nat) : Int))) (by rw [pop_hv]) ?_
        refine EV.istore (i := 5) (lv' := [some (.ref m), some (.int (zI (t))), some (.int (zI ((fst2 F t n).2))), some (.int (zI ((fst2 F t n).1))), some (.int (zI ((n : Int)))), some (.int (zI (((cnt (hvB F (n : Int) t) 6 : Nat) : Int))))]) dX7_feastOn_29 (by decide) rfl ?_
        refine EV.iload (i := 5) dX7_feastOn_31 rfl ?_
        refine EV.iload_n (i := 3) dX7_feastOn_33 rfl rfl ?_
        refine EV.icmp_le (t := 42) dX7_feastOn_34 (by decide) (by omega) (fun c34 => ?_) (fun c34 => ?_)
        · skip
          refine EV.iload_n (i := 2) dX7_feastOn_42 rfl rfl ?_
          refine EV.istore_n (i := 2) (lv' := [some (.ref m), some (.int (zI (t))), some (.int (zI ((fst2 F t n).2))), some (.int (zI ((fst2 F t n).1))), some (.int (zI ((n : Int)))), some (.int (zI (((cnt (hvB F (n : Int) t) 6 : Nat) : Int))))]) dX7_feastOn_43 rfl (by decide) rfl ?_
          refine EV.iload (i := 5) dX7_feastOn_44 rfl ?_
          refine EV.iload_n (i := 3) dX7_feastOn_46 rfl rfl ?_
          refine EV.icmp_le (t := 55) dX7_feastOn_47 (by decide) (by omega) (fun c47 => ?_) (fun c47 => ?_)
          · skip
            refine EV.iload_n (i := 3) dX7_feastOn_55 rfl rfl ?_
            refine EV.istore_n (i := 3) (lv' := [some (.ref m), some (.int (zI (t))), some (.int (zI ((fst2 F t n).2))), some (.int (zI ((fst2 F t n).1))), some (.int (zI ((n : Int)))), some (.int (zI (((cnt (hvB F (n : Int) t) 6 : Nat) : Int))))]) dX7_feastOn_56 rfl (by decide) rfl ?_
            refine EV.iinc (i := 4) (lv' := [some (.ref m), some (.int (zI (t))), some (.int (zI ((fst2 F t n).2))), some (.int (zI ((fst2 F t n).1))), some (.int (zI ((n : Int) + 1))), some (.int (zI (((cnt (hvB F (n : Int) t) 6 : Nat) : Int))))]) dX7_feastOn_57 rfl (by decide) rfl ?_
            refine EV.goto (t := 8) dX7_feastOn_60 (by decide) ?_
            refine EV.drop 5 (lv' := [some (.ref m), some (.int (zI (t))), some (.int (zI ((fst2 F t n).2))), some (.int (zI ((fst2 F t n).1))), some (.int (zI (((n : Int) + 1)))), none]) rfl ?_
            exact ih8 (n + 1) _ _ _ (by omega) (by omega) ((fst2_n (by omega)).2) ((fst2_n (by omega)).1) (rfl)
          · skip
            omega
        · skip
          refine EV.iload (i := 4) dX7_feastOn_37 rfl ?_
          refine EV.goto (t := 43) dX7_feastOn_39 (by decide) ?_
          refine EV.istore_n (i := 2) (lv' := [some (.ref m), some (.int (zI (t))), some (.int (zI ((n : Int)))), some (.int (zI ((fst2 F t n).1))), some (.int (zI ((n : Int)))), some (.int (zI (((cnt (hvB F (n : Int) t) 6 : Nat) : Int))))]) dX7_feastOn_43 rfl (by decide) rfl ?_
          refine EV.iload (i := 5) dX7_feastOn_44 rfl ?_
          refine EV.iload_n (i := 3) dX7_feastOn_46 rfl rfl ?_
          refine EV.icmp_le (t := 55) dX7_feastOn_47 (by decide) (by omega) (fun c47 => ?_) (fun c47 => ?_)
          · skip
            omega
          · skip
            refine EV.iload (i := 5) dX7_feastOn_50 rfl ?_
            refine EV.goto (t := 56) dX7_feastOn_52 (by decide) ?_
            refine EV.istore_n (i := 3) (lv' := [some (.ref m), some (.int (zI (t))), some (.int (zI ((n : Int)))), some (.int (zI (((cnt (hvB F (n : Int) t) 6 : Nat) : Int)))), some (.int (zI ((n : Int)))), some (.int (zI (((cnt (hvB F (n : Int) t) 6 : Nat) : Int))))]) dX7_feastOn_56 rfl (by decide) rfl ?_
            refine EV.iinc (i := 4) (lv' := [some (.ref m), some (.int (zI (t))), some (.int (zI ((n : Int)))), some (.int (zI (((cnt (hvB F (n : Int) t) 6 : Nat) : Int)))), some (.int (zI ((n : Int) + 1))), some (.int (zI (((cnt (hvB F (n : Int) t) 6 : Nat) : Int))))]) dX7_feastOn_57 rfl (by decide) rfl ?_
            refine EV.goto (t := 8) dX7_feastOn_60 (by decide) ?_
            refine EV.drop 5 (lv' := [some (.ref m), some (.int (zI (t))), some (.int (zI ((n : Int)))), some (.int (zI (((cnt (hvB F (n : Int) t) 6 : Nat) : Int)))), some (.int (zI (((n : Int) + 1)))), none]) rfl ?_
            exact ih8 (n + 1) _ _ _ (by omega) (by omega) ((fst2_y (by omega)).2) ((fst2_y (by omega)).1) (rfl)
  exact L8 _ 0 _ _ _ (by omega) (Nat.lt_succ_self _) (rfl) (rfl) (rfl)
set_option maxHeartbeats 4000000 in
set_option maxRecDepth 20000 in
theorem c_X7_goesWith (d : Nat) (hM : ModAt G h m A F P T K la im ik) (hW : WF F) (p q : Nat) (hp : p < 6) (hq : q < 6) (hbp : F.1.testBit p = true) (hbq : F.1.testBit q = true) (on : Int) (hon : -1 ≤ on ∧ on ≤ 1) : CT G l mX7_goesWith (d + 2) 0 0 [.ref m, .int (zI ((p : Int))), .int (zI ((q : Int))), .int (zI (on))] h (RQ h (bI (dl F p q on))) := by
  refine CT.of (by decide) (Nat.le_of_ble_eq_true rfl) (List.forall_mem_cons.mpr ⟨rfl, List.forall_mem_cons.mpr ⟨rfl, List.forall_mem_cons.mpr ⟨rfl, List.forall_mem_cons.mpr ⟨rfl, fun _ h => absurd h List.not_mem_nil⟩⟩⟩⟩) ?_
  refine EV.lvs (lv' := [some (.ref m), some (.int (zI ((p : Int)))), some (.int (zI ((q : Int)))), some (.int (zI (on))), none, none]) rfl ?_
  have ⟨hcm, hc0, hc1, hc2, hc3, hc4, hc5, hc6, hc7, hc8, hc9⟩ := hM
  have hth := hW.1
  refine EV.iconst dX7_goesWith_0 ?_
  refine EV.istore (i := 4) (lv' := [some (.ref m), some (.int (zI ((p : Int)))), some (.int (zI ((q : Int)))), some (.int (zI (on))), some (.int (zI (1))), none]) dX7_goesWith_1 (by decide) rfl ?_
  refine EV.iconst dX7_goesWith_3 ?_
  refine EV.istore (i := 5) (lv' := [some (.ref m), some (.int (zI ((p : Int)))), some (.int (zI ((q : Int)))), some (.int (zI (on))), some (.int (zI (1))), some (.int (zI (0)))]) dX7_goesWith_4 (by decide) rfl ?_
  have L6 : ∀ (n6 : Nat) (t : Nat) (x4 x5 : Int), (t ≤ 840) → 840 - t < n6 → x4 = bI (alln (dlB F p q on) t) → x5 = (t : Int) → EV G l mX7_goesWith (d + 2) (RQ h (bI (dl F p q on))) 6 [some (.ref m), some (.int (zI ((p : Int)))), some (.int (zI ((q : Int)))), some (.int (zI (on))), some (.int (zI (x4))), some (.int (zI (x5)))] [] h 0 0 := by
    intro n6
    induction n6 with
    | zero => intro _ _ _ _ hm; exact absurd hm (Nat.not_lt_zero _)
    | succ n6 ih6 =>
      intro t x4 x5 ht hm6 e4 e5
      subst e4 e5
      refine EV.iload (i := 5) dX7_goesWith_6 rfl ?_
      refine EV.sipush dX7_goesWith_8 (by decide) ?_
      refine EV.icmp_ge (t := 51) dX7_goesWith_11 (by decide) (by omega) (fun c11 => ?_) (fun c11 => ?_)
      · skip
        obtain rfl : t = 840 := by omega
        refine EV.iload (i := 4) dX7_goesWith_51 rfl ?_
        refine EV.zret rfl (nar_bI _) dX7_goesWith_53 ?_
        exact rQ rfl
      · skip
        refine EV.iload (i := 4) dX7_goesWith_14 rfl ?_
        refine EV.ifeqB (t := 51) dX7_goesWith_16 (by decide) (fun c16 => ?_) (fun c16 => ?_)
        · skip
          refine EV.iload (i := 4) dX7_goesWith_51 rfl ?_
          refine EV.zret rfl (nar_bI _) dX7_goesWith_53 ?_
          exact rQ (by rw [c16, dl, alln_up c16 (by omega)])
        · skip
          refine EV.aload_n (i := 0) dX7_goesWith_19 rfl rfl ?_
          refine EV.iload_n (i := 2) dX7_goesWith_20 rfl rfl ?_
          refine EV.iload (i := 5) dX7_goesWith_21 rfl ?_
          refine EV.callVr (M' := mX7_dayOf) (as := [.int (zI ((q : Int))), .int (zI ((t : Int)))]) (rest := []) ml_X7_80 im_X7_dayOf se_X7_dayOf rfl co_X7_dayOf dX7_goesWith_23 hcm (c_X7_dayOf (d + 0) hM hW q (t : Int) hq hbq (by omega)) rfl rfl (Nat.le_of_ble_eq_true rfl) ?_
          have hr2 := hW.dy hq hbq (t : Int)
          refine EV.aload_n (i := 0) dX7_goesWith_26 rfl rfl ?_
          refine EV.iload_n (i := 1) dX7_goesWith_27 rfl rfl ?_
          refine EV.iload (i := 5) dX7_goesWith_28 rfl ?_
          refine EV.iload_n (i := 3) dX7_goesWith_30 rfl rfl ?_
          refine EV.iadd dX7_goesWith_31 ?_
          refine EV.callVr (M' := mX7_dayOf) (as := [.int (zI ((p : Int))), .int (zI (((t : Int) + on)))]) (rest := [.int (zI (dy F q (t : Int)))]) ml_X7_80 im_X7_dayOf se_X7_dayOf rfl co_X7_dayOf dX7_goesWith_32 hcm (c_X7_dayOf (d + 0) hM hW p ((t : Int) + on) hp hbp (by omega)) rfl rfl (Nat.le_of_ble_eq_true rfl) ?_
          have hr1 := hW.dy hp hbp ((t : Int) + on)
          refine EV.icmp_ne (t := 42) dX7_goesWith_35 (by decide) (by omega) (fun c35 => ?_) (fun c35 => ?_)
          · skip
            refine EV.iconst dX7_goesWith_42 ?_
            refine EV.istore (i := 4) (lv' := [some (.ref m), some (.int (zI ((p : Int)))), some (.int (zI ((q : Int)))), some (.int (zI (on))), some (.int (zI (0))), some (.int (zI ((t : Int))))]) dX7_goesWith_43 (by decide) rfl ?_
            refine EV.iinc (i := 5) (lv' := [some (.ref m), some (.int (zI ((p : Int)))), some (.int (zI ((q : Int)))), some (.int (zI (on))), some (.int (zI (0))), some (.int (zI ((t : Int) + 1)))]) dX7_goesWith_45 rfl (by decide) rfl ?_
            refine EV.goto (t := 6) dX7_goesWith_48 (by decide) ?_
            exact ih6 (t + 1) _ _ (by omega) (by omega) (bI_f (alln_s0 (decide_eq_false c35))) (rfl)
          · skip
            refine EV.iconst dX7_goesWith_38 ?_
            refine EV.goto (t := 43) dX7_goesWith_39 (by decide) ?_
            refine EV.istore (i := 4) (lv' := [some (.ref m), some (.int (zI ((p : Int)))), some (.int (zI ((q : Int)))), some (.int (zI (on))), some (.int (zI (1))), some (.int (zI ((t : Int))))]) dX7_goesWith_43 (by decide) rfl ?_
            refine EV.iinc (i := 5) (lv' := [some (.ref m), some (.int (zI ((p : Int)))), some (.int (zI ((q : Int)))), some (.int (zI (on))), some (.int (zI (1))), some (.int (zI ((t : Int) + 1)))]) dX7_goesWith_45 rfl (by decide) rfl ?_
            refine EV.goto (t := 6) dX7_goesWith_48 (by decide) ?_
            exact ih6 (t + 1) _ _ (by omega) (by omega) (bI_t (alln_s1 c16 (decide_eq_true c35))) (rfl)
  exact L6 _ 0 _ _ (by omega) (Nat.lt_succ_self _) (by rfl) (by rfl)
set_option maxHeartbeats 4000000 in
set_option maxRecDepth 20000 in
theorem c_X7_isWell (d : Nat) (hM : ModAt G h m A F P T K la im ik) (hW : WF F) (p : Nat) (D : Int) (hp : p < 6) (hT : WFT T) (hD : 0 ≤ D ∧ D ≤ 7) : CT G l mX7_isWell (d + 2) 0 0 [.ref m, .int (zI ((p : Int))), .int (zI (D))] h (RQ h (bI (wl F T p D T.1))) := by
  refine CT.of (by decide) (Nat.le_of_ble_eq_true rfl) (List.forall_mem_cons.mpr ⟨rfl, List.forall_mem_cons.mpr ⟨rfl, List.forall_mem_cons.mpr ⟨rfl, fun _ h => absurd h List.not_mem_nil⟩⟩⟩) ?_
  refine EV.lvs (lv' := [some (.ref m), some (.int (zI ((p : Int)))), some (.int (zI (D))), none, none]) rfl ?_
  have ⟨hcm, hc0, hc1, hc2, hc3, hc4, hc5, hc6, hc7, hc8, hc9⟩ := hM
  have hth := hW.1
  have hT6 := hT.1
  refine EV.aload_n (i := 0) dX7_isWell_0 rfl rfl ?_
  refine EV.getf fl_X7_41 dX7_isWell_1 hcm rfl ?_
  refine EV.iload_n (i := 1) dX7_isWell_4 rfl rfl ?_
  refine EV.callSr (M' := mX7_has) (as := [.int (zI ((F.1 : Int))), .int (zI ((p : Int)))]) (rest := []) ml_X7_49 sm_X7_has co_X7_has dX7_isWell_5 (c_X7_has (d + 0) F.1 p (by omega) (by omega)) rfl rfl (Nat.le_of_ble_eq_true rfl) ?_
  refine EV.istore_n (i := 3) (lv' := [some (.ref m), some (.int (zI ((p : Int)))), some (.int (zI (D))), some (.int (zI (bI (F.1.testBit p)))), none]) dX7_isWell_8 rfl (by decide) rfl ?_
  refine EV.iconst dX7_isWell_9 ?_
  refine EV.istore (i := 4) (lv' := [some (.ref m), some (.int (zI ((p : Int)))), some (.int (zI (D))), some (.int (zI (bI (F.1.testBit p)))), some (.int (zI (0)))]) dX7_isWell_10 (by decide) rfl ?_
  have L12 : ∀ (n12 : Nat) (i : Nat) (x3 x4 : Int), (i ≤ T.1) → T.1 - i < n12 → x3 = bI (wl F T p D i) → x4 = (i : Int) → EV G l mX7_isWell (d + 2) (RQ h (bI (wl F T p D T.1))) 12 [some (.ref m), some (.int (zI ((p : Int)))), some (.int (zI (D))), some (.int (zI (x3))), some (.int (zI (x4)))] [] h 0 0 := by
    intro n12
    induction n12 with
    | zero => intro _ _ _ _ hm; exact absurd hm (Nat.not_lt_zero _)
    | succ n12 ih12 =>
      intro i x3 x4 hi hm12 e3 e4
      subst e3 e4
      refine EV.iload (i := 4) dX7_isWell_12 rfl ?_
      refine EV.aload_n (i := 0) dX7_isWell_14 rfl rfl ?_
      refine EV.getf fl_X7_128 dX7_isWell_15 hcm rfl ?_
      refine EV.icmp_ge (t := 83) dX7_isWell_18 (by decide) (by omega) (fun c18 => ?_) (fun c18 => ?_)
      · skip
        obtain rfl : i = T.1 := by omega
        refine EV.iload_n (i := 3) dX7_isWell_83 rfl rfl ?_
        refine EV.zret rfl (nar_bI _) dX7_isWell_84 ?_
        exact rQ rfl
      · skip
        refine EV.iload_n (i := 3) dX7_isWell_21 rfl rfl ?_
        refine EV.ifeqB (t := 83) dX7_isWell_22 (by decide) (fun c22 => ?_) (fun c22 => ?_)
        · skip
          refine EV.iload_n (i := 3) dX7_isWell_83 rfl rfl ?_
          refine EV.zret rfl (nar_bI _) dX7_isWell_84 ?_
          exact rQ (by rw [c22, wl_up c22 (by omega)])
        · skip
          have hb := wl_th c22
          have hsd := (hT.2 i (by omega)).1
          have hss := (hT.2 i (by omega)).2
          refine EV.aload_n (i := 0) dX7_isWell_25 rfl rfl ?_
          refine EV.iload_n (i := 1) dX7_isWell_26 rfl rfl ?_
          refine EV.aload_n (i := 0) dX7_isWell_27 rfl rfl ?_
          refine EV.getf fl_X7_25 dX7_isWell_28 hcm rfl ?_
          refine EV.iconst dX7_isWell_31 ?_
          refine EV.iload (i := 4) dX7_isWell_32 rfl ?_
          refine EV.imul dX7_isWell_34 ?_
          refine EV.iald dX7_isWell_35 hc5 (2 * i) (by omega) (by omega) ?_
          refine EV.top (y := zI (T.2.1 i)) (by rw [sg_e]) ?_
          refine EV.callVr (M' := mX7_dayOf) (as := [.int (zI ((p : Int))), .int (zI (T.2.1 i))]) (rest := []) ml_X7_80 im_X7_dayOf se_X7_dayOf rfl co_X7_dayOf dX7_isWell_36 hcm (c_X7_dayOf (d + 0) hM hW p (T.2.1 i) (by omega) hb (by omega)) rfl rfl (Nat.le_of_ble_eq_true rfl) ?_
          have hdy := hW.dy (p := p) (by omega) hb (T.2.1 i)
          refine EV.iload_n (i := 2) dX7_isWell_39 rfl rfl ?_
          refine EV.icmp_ne (t := 47) dX7_isWell_40 (by decide) (by omega) (fun c40 => ?_) (fun c40 => ?_)
          · skip
            refine EV.iconst dX7_isWell_47 ?_
            refine EV.aload_n (i := 0) dX7_isWell_48 rfl rfl ?_
            refine EV.getf fl_X7_25 dX7_isWell_49 hcm rfl ?_
            refine EV.iconst dX7_isWell_52 ?_
            refine EV.iload (i := 4) dX7_isWell_53 rfl ?_
            refine EV.imul dX7_isWell_55 ?_
            refine EV.iconst dX7_isWell_56 ?_
            refine EV.iadd dX7_isWell_57 ?_
            refine EV.iald dX7_isWell_58 hc5 (2 * i + 1) (by omega) (by omega) ?_
            refine EV.top (y := zI (T.2.2 i)) (by rw [sg_o]) ?_
            refine EV.iconst dX7_isWell_59 ?_
            refine EV.icmp_ne (t := 67) dX7_isWell_60 (by decide) (by omega) (fun c60 => ?_) (fun c60 => ?_)
            · skip
              refine EV.iconst dX7_isWell_67 ?_
              refine EV.icmp_ne (t := 75) dX7_isWell_68 (by decide) (by omega) (fun c68 => ?_) (fun c68 => ?_)
              · skip
                omega
              · skip
                refine EV.iconst dX7_isWell_71 ?_
                refine EV.goto (t := 76) dX7_isWell_72 (by decide) ?_
                refine EV.istore_n (i := 3) (lv' := [some (.ref m), some (.int (zI ((p : Int)))), some (.int (zI (D))), some (.int (zI (1))), some (.int (zI ((i : Int))))]) dX7_isWell_76 rfl (by decide) rfl ?_
                refine EV.iinc (i := 4) (lv' := [some (.ref m), some (.int (zI ((p : Int)))), some (.int (zI (D))), some (.int (zI (1))), some (.int (zI ((i : Int) + 1)))]) dX7_isWell_77 rfl (by decide) rfl ?_
                refine EV.goto (t := 12) dX7_isWell_80 (by decide) ?_
                exact ih12 (i + 1) _ _ (by omega) (by omega) (bI_t (wl_1 c22 (wlB_v (a := false) (b := false) (decide_eq_false c40) (decide_eq_false c60)))) (rfl)
            · skip
              refine EV.iconst dX7_isWell_63 ?_
              refine EV.goto (t := 68) dX7_isWell_64 (by decide) ?_
              refine EV.icmp_ne (t := 75) dX7_isWell_68 (by decide) (by omega) (fun c68 => ?_) (fun c68 => ?_)
              · skip
                refine EV.iconst dX7_isWell_75 ?_
                refine EV.istore_n (i := 3) (lv' := [some (.ref m), some (.int (zI ((p : Int)))), some (.int (zI (D))), some (.int (zI (0))), some (.int (zI ((i : Int))))]) dX7_isWell_76 rfl (by decide) rfl ?_
                refine EV.iinc (i := 4) (lv' := [some (.ref m), some (.int (zI ((p : Int)))), some (.int (zI (D))), some (.int (zI (0))), some (.int (zI ((i : Int) + 1)))]) dX7_isWell_77 rfl (by decide) rfl ?_
                refine EV.goto (t := 12) dX7_isWell_80 (by decide) ?_
                exact ih12 (i + 1) _ _ (by omega) (by omega) (bI_f (wl_0 (wlB_v (a := false) (b := true) (decide_eq_false c40) (decide_eq_true c60)))) (rfl)
              · skip
                omega
          · skip
            refine EV.iconst dX7_isWell_43 ?_
            refine EV.goto (t := 48) dX7_isWell_44 (by decide) ?_
            refine EV.aload_n (i := 0) dX7_isWell_48 rfl rfl ?_
            refine EV.getf fl_X7_25 dX7_isWell_49 hcm rfl ?_
            refine EV.iconst dX7_isWell_52 ?_
            refine EV.iload (i := 4) dX7_isWell_53 rfl ?_
            refine EV.imul dX7_isWell_55 ?_
            refine EV.iconst dX7_isWell_56 ?_
            refine EV.iadd dX7_isWell_57 ?_
            refine EV.iald dX7_isWell_58 hc5 (2 * i + 1) (by omega) (by omega) ?_
            refine EV.top (y := zI (T.2.2 i)) (by rw [sg_o]) ?_
            refine EV.iconst dX7_isWell_59 ?_
            refine EV.icmp_ne (t := 67) dX7_isWell_60 (by decide) (by omega) (fun c60 => ?_) (fun c60 => ?_)
            · skip
              refine EV.iconst dX7_isWell_67 ?_
              refine EV.icmp_ne (t := 75) dX7_isWell_68 (by decide) (by omega) (fun c68 => ?_) (fun c68 => ?_)
              · skip
                refine EV.iconst dX7_isWell_75 ?_
                refine EV.istore_n (i := 3) (lv' := [some (.ref m), some (.int (zI ((p : Int)))), some (.int (zI (D))), some (.int (zI (0))), some (.int (zI ((i : Int))))]) dX7_isWell_76 rfl (by decide) rfl ?_
                refine EV.iinc (i := 4) (lv' := [some (.ref m), some (.int (zI ((p : Int)))), some (.int (zI (D))), some (.int (zI (0))), some (.int (zI ((i : Int) + 1)))]) dX7_isWell_77 rfl (by decide) rfl ?_
                refine EV.goto (t := 12) dX7_isWell_80 (by decide) ?_
                exact ih12 (i + 1) _ _ (by omega) (by omega) (bI_f (wl_0 (wlB_v (a := true) (b := false) (decide_eq_true c40) (decide_eq_false c60)))) (rfl)
              · skip
                omega
            · skip
              refine EV.iconst dX7_isWell_63 ?_
              refine EV.goto (t := 68) dX7_isWell_64 (by decide) ?_
              refine EV.icmp_ne (t := 75) dX7_isWell_68 (by decide) (by omega) (fun c68 => ?_) (fun c68 => ?_)
              · skip
                omega
              · skip
                refine EV.iconst dX7_isWell_71 ?_
                refine EV.goto (t := 76) dX7_isWell_72 (by decide) ?_
                refine EV.istore_n (i := 3) (lv' := [some (.ref m), some (.int (zI ((p : Int)))), some (.int (zI (D))), some (.int (zI (1))), some (.int (zI ((i : Int))))]) dX7_isWell_76 rfl (by decide) rfl ?_
                refine EV.iinc (i := 4) (lv' := [some (.ref m), some (.int (zI ((p : Int)))), some (.int (zI (D))), some (.int (zI (1))), some (.int (zI ((i : Int) + 1)))]) dX7_isWell_77 rfl (by decide) rfl ?_
                refine EV.goto (t := 12) dX7_isWell_80 (by decide) ?_
                exact ih12 (i + 1) _ _ (by omega) (by omega) (bI_t (wl_1 c22 (wlB_v (a := true) (b := true) (decide_eq_true c40) (decide_eq_true c60)))) (rfl)
  exact L12 _ 0 _ _ (by omega) (Nat.lt_succ_self _) (wl_z F T p D) (rfl)
end
