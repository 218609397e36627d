section
variable {G : GG} {l : Launch}
set_option maxHeartbeats 4000000 in
set_option maxRecDepth 20000 in
theorem c_X6_isOneOf (d : Nat) {h : Hp} (z n : Int) (hz : inR z) (hn : inR n) : CT G l mX6_isOneOf (d + 1) 0 0 [.int (zI (z)), .int (zI (n))] h (RQ h (bI (rg z 0 (n - 1)))) := by
  refine CT.of (by decide) (Nat.le_of_ble_eq_true rfl) (List.forall_mem_cons.mpr ⟨rfl, List.forall_mem_cons.mpr ⟨rfl, fun _ h => absurd h List.not_mem_nil⟩⟩) ?_
  refine EV.lvs (lv' := [some (.int (zI (z))), some (.int (zI (n)))]) rfl ?_
  refine EV.iload_n (i := 0) dX6_isOneOf_0 rfl rfl ?_
  refine EV.iflt (t := 13) dX6_isOneOf_1 (by decide) (by omega) (fun c1 => ?_) (fun c1 => ?_)
  · skip
    refine EV.iconst dX6_isOneOf_13 ?_
    refine EV.zret rfl (by decide) dX6_isOneOf_14 ?_
    exact rQ (by unfold bI rg; simp only [decide_eq_true_eq]; split <;> omega)
  · skip
    refine EV.iload_n (i := 0) dX6_isOneOf_4 rfl rfl ?_
    refine EV.iload_n (i := 1) dX6_isOneOf_5 rfl rfl ?_
    refine EV.icmp_ge (t := 13) dX6_isOneOf_6 (by decide) (by omega) (fun c6 => ?_) (fun c6 => ?_)
    · skip
      refine EV.iconst dX6_isOneOf_13 ?_
      refine EV.zret rfl (by decide) dX6_isOneOf_14 ?_
      exact rQ (by unfold bI rg; simp only [decide_eq_true_eq]; split <;> omega)
    · skip
      refine EV.iconst dX6_isOneOf_9 ?_
      refine EV.goto (t := 14) dX6_isOneOf_10 (by decide) ?_
      refine EV.zret rfl (by decide) dX6_isOneOf_14 ?_
      exact rQ (by unfold bI rg; simp only [decide_eq_true_eq]; split <;> omega)
set_option maxHeartbeats 4000000 in
set_option maxRecDepth 20000 in
theorem c_X6_isDate (d : Nat) {h : Hp} (z : Int) (hz : inR z) : CT G l mX6_isDate (d + 1) 0 0 [.int (zI (z))] h (RQ h (bI (rg z 0 9999))) := by
  refine CT.of (by decide) (Nat.le_of_ble_eq_true rfl) (List.forall_mem_cons.mpr ⟨rfl, fun _ h => absurd h List.not_mem_nil⟩) ?_
  refine EV.lvs (lv' := [some (.int (zI (z)))]) rfl ?_
  refine EV.iload_n (i := 0) dX6_isDate_0 rfl rfl ?_
  refine EV.iflt (t := 15) dX6_isDate_1 (by decide) (by omega) (fun c1 => ?_) (fun c1 => ?_)
  · skip
    refine EV.iconst dX6_isDate_15 ?_
    refine EV.zret rfl (by decide) dX6_isDate_16 ?_
    exact rQ (by unfold bI rg; simp only [decide_eq_true_eq]; split <;> omega)
  · skip
    refine EV.iload_n (i := 0) dX6_isDate_4 rfl rfl ?_
    refine EV.sipush dX6_isDate_5 (by decide) ?_
    refine EV.icmp_gt (t := 15) dX6_isDate_8 (by decide) (by omega) (fun c8 => ?_) (fun c8 => ?_)
    · skip
      refine EV.iconst dX6_isDate_15 ?_
      refine EV.zret rfl (by decide) dX6_isDate_16 ?_
      exact rQ (by unfold bI rg; simp only [decide_eq_true_eq]; split <;> omega)
    · skip
      refine EV.iconst dX6_isDate_11 ?_
      refine EV.goto (t := 16) dX6_isDate_12 (by decide) ?_
      refine EV.zret rfl (by decide) dX6_isDate_16 ?_
      exact rQ (by unfold bI rg; simp only [decide_eq_true_eq]; split <;> omega)
set_option maxHeartbeats 4000000 in
set_option maxRecDepth 20000 in
theorem c_X6_isBirth (d : Nat) {h : Hp} (z : Int) (hz : inR z) : CT G l mX6_isBirth (d + 1) 0 0 [.int (zI (z))] h (RQ h (bI (rg z 0 99))) := by
  refine CT.of (by decide) (Nat.le_of_ble_eq_true rfl) (List.forall_mem_cons.mpr ⟨rfl, fun _ h => absurd h List.not_mem_nil⟩) ?_
  refine EV.lvs (lv' := [some (.int (zI (z)))]) rfl ?_
  refine EV.iload_n (i := 0) dX6_isBirth_0 rfl rfl ?_
  refine EV.iflt (t := 14) dX6_isBirth_1 (by decide) (by omega) (fun c1 => ?_) (fun c1 => ?_)
  · skip
    refine EV.iconst dX6_isBirth_14 ?_
    refine EV.zret rfl (by decide) dX6_isBirth_15 ?_
    exact rQ (by unfold bI rg; simp only [decide_eq_true_eq]; split <;> omega)
  · skip
    refine EV.iload_n (i := 0) dX6_isBirth_4 rfl rfl ?_
    refine EV.bipush dX6_isBirth_5 (by decide) ?_
    refine EV.icmp_gt (t := 14) dX6_isBirth_7 (by decide) (by omega) (fun c7 => ?_) (fun c7 => ?_)
    · skip
      refine EV.iconst dX6_isBirth_14 ?_
      refine EV.zret rfl (by decide) dX6_isBirth_15 ?_
      exact rQ (by unfold bI rg; simp only [decide_eq_true_eq]; split <;> omega)
    · skip
      refine EV.iconst dX6_isBirth_10 ?_
      refine EV.goto (t := 15) dX6_isBirth_11 (by decide) ?_
      refine EV.zret rfl (by decide) dX6_isBirth_15 ?_
      exact rQ (by unfold bI rg; simp only [decide_eq_true_eq]; split <;> omega)
set_option maxHeartbeats 4000000 in
set_option maxRecDepth 20000 in
theorem c_X7_in (d : Nat) {h : Hp} (z n m : Int) (hz : inR z) (hn : inR n) (hm : inR m) : CT G l mX7_in (d + 1) 0 0 [.int (zI (z)), .int (zI (n)), .int (zI (m))] h (RQ h (bI (rg z n m))) := by
  refine CT.of (by decide) (Nat.le_of_ble_eq_true rfl) (List.forall_mem_cons.mpr ⟨rfl, List.forall_mem_cons.mpr ⟨rfl, List.forall_mem_cons.mpr ⟨rfl, fun _ h => absurd h List.not_mem_nil⟩⟩⟩) ?_
  refine EV.lvs (lv' := [some (.int (zI (z))), some (.int (zI (n))), some (.int (zI (m)))]) rfl ?_
  refine EV.iload_n (i := 0) dX7_in_0 rfl rfl ?_
  refine EV.iload_n (i := 1) dX7_in_1 rfl rfl ?_
  refine EV.icmp_lt (t := 14) dX7_in_2 (by decide) (by omega) (fun c2 => ?_) (fun c2 => ?_)
  · skip
    refine EV.iconst dX7_in_14 ?_
    refine EV.zret rfl (by decide) dX7_in_15 ?_
    exact rQ (by unfold bI rg; simp only [decide_eq_true_eq]; split <;> omega)
  · skip
    refine EV.iload_n (i := 0) dX7_in_5 rfl rfl ?_
    refine EV.iload_n (i := 2) dX7_in_6 rfl rfl ?_
    refine EV.icmp_gt (t := 14) dX7_in_7 (by decide) (by omega) (fun c7 => ?_) (fun c7 => ?_)
    · skip
      refine EV.iconst dX7_in_14 ?_
      refine EV.zret rfl (by decide) dX7_in_15 ?_
      exact rQ (by unfold bI rg; simp only [decide_eq_true_eq]; split <;> omega)
    · skip
      refine EV.iconst dX7_in_10 ?_
      refine EV.goto (t := 15) dX7_in_11 (by decide) ?_
      refine EV.zret rfl (by decide) dX7_in_15 ?_
      exact rQ (by unfold bI rg; simp only [decide_eq_true_eq]; split <;> omega)
set_option maxHeartbeats 4000000 in
set_option maxRecDepth 20000 in
theorem c_X7_isDay (d : Nat) {h : Hp} (z : Int) (hz : inR z) : CT G l mX7_isDay (d + 2) 0 0 [.int (zI (z))] h (RQ h (bI (rg z 0 7))) := by
  refine CT.of (by decide) (Nat.le_of_ble_eq_true rfl) (List.forall_mem_cons.mpr ⟨rfl, fun _ h => absurd h List.not_mem_nil⟩) ?_
  refine EV.lvs (lv' := [some (.int (zI (z)))]) rfl ?_
  refine EV.iload_n (i := 0) dX7_isDay_0 rfl rfl ?_
  refine EV.iconst dX7_isDay_1 ?_
  refine EV.bipush dX7_isDay_2 (by decide) ?_
  refine EV.callSr (M' := mX7_in) (as := [.int (zI (z)), .int (zI (0)), .int (zI (7))]) (rest := []) ml_X7_45 sm_X7_in co_X7_in dX7_isDay_4 (c_X7_in (d + 0) z 0 7 (by omega) (by omega) (by omega)) rfl rfl (Nat.le_of_ble_eq_true rfl) ?_
  refine EV.zret rfl (nar_bI _) dX7_isDay_7 ?_
  exact rQ rfl
set_option maxHeartbeats 4000000 in
set_option maxRecDepth 20000 in
theorem c_X7_isDate (d : Nat) {h : Hp} (z : Int) (hz : inR z) : CT G l mX7_isDate (d + 2) 0 0 [.int (zI (z))] h (RQ h (bI (rg z 0 9999))) := by
  refine CT.of (by decide) (Nat.le_of_ble_eq_true rfl) (List.forall_mem_cons.mpr ⟨rfl, fun _ h => absurd h List.not_mem_nil⟩) ?_
  refine EV.lvs (lv' := [some (.int (zI (z)))]) rfl ?_
  refine EV.iload_n (i := 0) dX7_isDate_0 rfl rfl ?_
  refine EV.iconst dX7_isDate_1 ?_
  refine EV.sipush dX7_isDate_2 (by decide) ?_
  refine EV.callSr (M' := mX7_in) (as := [.int (zI (z)), .int (zI (0)), .int (zI (9999))]) (rest := []) ml_X7_45 sm_X7_in co_X7_in dX7_isDate_5 (c_X7_in (d + 0) z 0 9999 (by omega) (by omega) (by omega)) rfl rfl (Nat.le_of_ble_eq_true rfl) ?_
  refine EV.zret rfl (nar_bI _) dX7_isDate_8 ?_
  exact rQ rfl
set_option maxHeartbeats 4000000 in
set_option maxRecDepth 20000 in
theorem c_X7_has (d : Nat) {h : Hp} (a p : Nat) (ha : a < 2147483648) (hp : p < 31) : CT G l mX7_has (d + 1) 0 0 [.int (zI ((a : Int))), .int (zI ((p : Int)))] h (RQ h (bI (a.testBit p))) := by
  refine CT.of (by decide) (Nat.le_of_ble_eq_true rfl) (List.forall_mem_cons.mpr ⟨rfl, List.forall_mem_cons.mpr ⟨rfl, fun _ h => absurd h List.not_mem_nil⟩⟩) ?_
  refine EV.lvs (lv' := [some (.int (zI ((a : Int)))), some (.int (zI ((p : Int))))]) rfl ?_
  refine EV.iload_n (i := 0) dX7_has_0 rfl rfl ?_
  refine EV.iload_n (i := 1) dX7_has_1 rfl rfl ?_
  refine EV.ishrW dX7_has_2 ?_
  refine EV.iconst dX7_has_3 ?_
  refine EV.iandW dX7_has_4 ?_
  refine EV.top (y := zI (bI (a.testBit p))) (zI_bit hp ha) ?_
  refine EV.iconst dX7_has_5 ?_
  have hb := bI_in (a.testBit p)
  refine EV.icmp_ne (t := 13) dX7_has_6 (by decide) (by omega) (fun c6 => ?_) (fun c6 => ?_)
  · skip
    refine EV.iconst dX7_has_13 ?_
    refine EV.zret rfl (by decide) dX7_has_14 ?_
    exact rQ (by rcases bI_01 (a.testBit p) with z | z <;> omega)
  · skip
    refine EV.iconst dX7_has_9 ?_
    refine EV.goto (t := 14) dX7_has_10 (by decide) ?_
    refine EV.zret rfl (by decide) dX7_has_14 ?_
    exact rQ (by rcases bI_01 (a.testBit p) with z | z <;> omega)
set_option maxHeartbeats 4000000 in
set_option maxRecDepth 20000 in
theorem c_X7_bits (d : Nat) {h : Hp} (a : Nat) (ha : a < 256) : CT G l mX7_bits (d + 1) 0 0 [.int (zI ((a : Int)))] h (RQ h ((pop a : Int))) := by
  refine CT.of (by decide) (Nat.le_of_ble_eq_true rfl) (List.forall_mem_cons.mpr ⟨rfl, fun _ h => absurd h List.not_mem_nil⟩) ?_
  refine EV.lvs (lv' := [some (.int (zI ((a : Int)))), none, none]) rfl ?_
  refine EV.iconst dX7_bits_0 ?_
  refine EV.istore_n (i := 1) (lv' := [some (.int (zI ((a : Int)))), some (.int (zI (0))), none]) dX7_bits_1 rfl (by decide) rfl ?_
  refine EV.iconst dX7_bits_2 ?_
  refine EV.istore_n (i := 2) (lv' := [some (.int (zI ((a : Int)))), some (.int (zI (0))), some (.int (zI (0)))]) dX7_bits_3 rfl (by decide) rfl ?_
  have L4 : ∀ (n4 : Nat) (p : Nat) (x1 x2 : Int), p ≤ 8 → 8 - p < n4 → x1 = ((cnt a.testBit p : Nat) : Int) → x2 = (p : Int) → EV G l mX7_bits (d + 1) (RQ h ((pop a : Int))) 4 [some (.int (zI ((a : Int)))), some (.int (zI (x1))), some (.int (zI (x2)))] [] h 0 0 := by
    intro n4
    induction n4 with
    | zero => intro _ _ _ _ hm; exact absurd hm (Nat.not_lt_zero _)
    | succ n4 ih4 =>
      intro p x1 x2 hp hm4 e1 e2
      subst e1 e2
      refine EV.iload_n (i := 2) dX7_bits_4 rfl rfl ?_
      refine EV.bipush dX7_bits_5 (by decide) ?_
      refine EV.icmp_ge (t := 24) dX7_bits_7 (by decide) (by omega) (fun c7 => ?_) (fun c7 => ?_)
      · skip
        obtain rfl : p = 8 := by omega
        refine EV.iload_n (i := 1) dX7_bits_24 rfl rfl ?_
        refine EV.iret rfl dX7_bits_25 ?_
        exact rQ rfl
      · skip
        refine EV.iload_n (i := 1) dX7_bits_10 rfl rfl ?_
        refine EV.iload_n (i := 0) dX7_bits_11 rfl rfl ?_
        refine EV.iload_n (i := 2) dX7_bits_12 rfl rfl ?_
        refine EV.ishrW dX7_bits_13 ?_
        refine EV.iconst dX7_bits_14 ?_
        refine EV.iandW dX7_bits_15 ?_
        refine EV.top (y := zI (bI (a.testBit p))) (zI_bit (by omega) (by omega)) ?_
        refine EV.iadd dX7_bits_16 ?_
        refine EV.istore_n (i := 1) (lv' := [some (.int (zI ((a : Int)))), some (.int (zI ((((cnt a.testBit p : Nat) : Int) + bI (a.testBit p))))), some (.int (zI ((p : Int))))]) dX7_bits_17 rfl (by decide) rfl ?_
        refine EV.iinc (i := 2) (lv' := [some (.int (zI ((a : Int)))), some (.int (zI ((((cnt a.testBit p : Nat) : Int) + bI (a.testBit p))))), some (.int (zI ((p : Int) + 1)))]) dX7_bits_18 rfl (by decide) rfl ?_
        refine EV.goto (t := 4) dX7_bits_21 (by decide) ?_
        exact ih4 (p + 1) _ _ (by omega) (by omega) (cnt_bI _ _) (by rfl)
  exact L4 _ 0 _ _ (by omega) (Nat.lt_succ_self _) (by rfl) (by rfl)
set_option maxHeartbeats 4000000 in
set_option maxRecDepth 20000 in
theorem c_J6_bitCount_0f7a4 (d : Nat) {h : Hp} (a : Nat) (ha : a < 256) : CT G l mJ6_bitCount_0f7a4 (d + 1) 0 0 [.int (zI ((a : Int)))] h (RQ h ((pop a : Int))) := by
  refine CT.ofF (by decide +kernel) (Nat.le_of_ble_eq_true rfl) (List.forall_mem_cons.mpr ⟨rfl, fun _ h => absurd h List.not_mem_nil⟩) ?_
  refine EV.lvs (lv' := [some (.int (zI ((a : Int))))]) rfl ?_
  refine EV.iload_n (i := 0) dJ6_bitCount_0f7a4_0 rfl rfl ?_
  refine EV.iload_n (i := 0) dJ6_bitCount_0f7a4_1 rfl rfl ?_
  refine EV.iconst dJ6_bitCount_0f7a4_2 ?_
  refine EV.iushrW dJ6_bitCount_0f7a4_3 ?_
  refine EV.ldcw dJ6_bitCount_0f7a4_4 ct_J6_265 ?_
  refine EV.iandW dJ6_bitCount_0f7a4_7 ?_
  refine EV.isubW dJ6_bitCount_0f7a4_8 ?_
  refine EV.istore_n (i := 0) (lv' := [some (.int ((zI ((a : Int)) - (((((zI ((a : Int)))).toUInt32 >>> (((zI (1))).toUInt32 &&& Int32.toUInt32 31)).toInt32) &&& (zI (1431655765))))))]) dJ6_bitCount_0f7a4_9 rfl (by decide) rfl ?_
  refine EV.iload_n (i := 0) dJ6_bitCount_0f7a4_10 rfl rfl ?_
  refine EV.ldcw dJ6_bitCount_0f7a4_11 ct_J6_266 ?_
  refine EV.iandW dJ6_bitCount_0f7a4_14 ?_
  refine EV.iload_n (i := 0) dJ6_bitCount_0f7a4_15 rfl rfl ?_
  refine EV.iconst dJ6_bitCount_0f7a4_16 ?_
  refine EV.iushrW dJ6_bitCount_0f7a4_17 ?_
  refine EV.ldcw dJ6_bitCount_0f7a4_18 ct_J6_266 ?_
  refine EV.iandW dJ6_bitCount_0f7a4_21 ?_
  refine EV.iaddW dJ6_bitCount_0f7a4_22 ?_
  refine EV.istore_n (i := 0) (lv' := [some (.int ((((zI ((a : Int)) - (((((zI ((a : Int)))).toUInt32 >>> (((zI (1))).toUInt32 &&& Int32.toUInt32 31)).toInt32) &&& (zI (1431655765)))) &&& (zI (858993459))) + (((((zI ((a : Int)) - (((((zI ((a : Int)))).toUInt32 >>> (((zI (1))).toUInt32 &&& Int32.toUInt32 31)).toInt32) &&& (zI (1431655765))))).toUInt32 >>> (((zI (2))).toUInt32 &&& Int32.toUInt32 31)).toInt32) &&& (zI (858993459))))))]) dJ6_bitCount_0f7a4_23 rfl (by decide) rfl ?_
  refine EV.iload_n (i := 0) dJ6_bitCount_0f7a4_24 rfl rfl ?_
  refine EV.iload_n (i := 0) dJ6_bitCount_0f7a4_25 rfl rfl ?_
  refine EV.iconst dJ6_bitCount_0f7a4_26 ?_
  refine EV.iushrW dJ6_bitCount_0f7a4_27 ?_
  refine EV.iaddW dJ6_bitCount_0f7a4_28 ?_
  refine EV.ldcw dJ6_bitCount_0f7a4_29 ct_J6_267 ?_
  refine EV.iandW dJ6_bitCount_0f7a4_32 ?_
  refine EV.istore_n (i := 0) (lv' := [some (.int ((((((zI ((a : Int)) - (((((zI ((a : Int)))).toUInt32 >>> (((zI (1))).toUInt32 &&& Int32.toUInt32 31)).toInt32) &&& (zI (1431655765)))) &&& (zI (858993459))) + (((((zI ((a : Int)) - (((((zI ((a : Int)))).toUInt32 >>> (((zI (1))).toUInt32 &&& Int32.toUInt32 31)).toInt32) &&& (zI (1431655765))))).toUInt32 >>> (((zI (2))).toUInt32 &&& Int32.toUInt32 31)).toInt32) &&& (zI (858993459)))) + ((((((zI ((a : Int)) - (((((zI ((a : Int)))).toUInt32 >>> (((zI (1))).toUInt32 &&& Int32.toUInt32 31)).toInt32) &&& (zI (1431655765)))) &&& (zI (858993459))) + (((((zI ((a : Int)) - (((((zI ((a : Int)))).toUInt32 >>> (((zI (1))).toUInt32 &&& Int32.toUInt32 31)).toInt32) &&& (zI (1431655765))))).toUInt32 >>> (((zI (2))).toUInt32 &&& Int32.toUInt32 31)).toInt32) &&& (zI (858993459))))).toUInt32 >>> (((zI (4))).toUInt32 &&& Int32.toUInt32 31)).toInt32)) &&& (zI (252645135)))))]) dJ6_bitCount_0f7a4_33 rfl (by decide) rfl ?_
  refine EV.iload_n (i := 0) dJ6_bitCount_0f7a4_34 rfl rfl ?_
  refine EV.iload_n (i := 0) dJ6_bitCount_0f7a4_35 rfl rfl ?_
  refine EV.bipush dJ6_bitCount_0f7a4_36 (by decide) ?_
  refine EV.iushrW dJ6_bitCount_0f7a4_38 ?_
  refine EV.iaddW dJ6_bitCount_0f7a4_39 ?_
  refine EV.istore_n (i := 0) (lv' := [some (.int (((((((zI ((a : Int)) - (((((zI ((a : Int)))).toUInt32 >>> (((zI (1))).toUInt32 &&& Int32.toUInt32 31)).toInt32) &&& (zI (1431655765)))) &&& (zI (858993459))) + (((((zI ((a : Int)) - (((((zI ((a : Int)))).toUInt32 >>> (((zI (1))).toUInt32 &&& Int32.toUInt32 31)).toInt32) &&& (zI (1431655765))))).toUInt32 >>> (((zI (2))).toUInt32 &&& Int32.toUInt32 31)).toInt32) &&& (zI (858993459)))) + ((((((zI ((a : Int)) - (((((zI ((a : Int)))).toUInt32 >>> (((zI (1))).toUInt32 &&& Int32.toUInt32 31)).toInt32) &&& (zI (1431655765)))) &&& (zI (858993459))) + (((((zI ((a : Int)) - (((((zI ((a : Int)))).toUInt32 >>> (((zI (1))).toUInt32 &&& Int32.toUInt32 31)).toInt32) &&& (zI (1431655765))))).toUInt32 >>> (((zI (2))).toUInt32 &&& Int32.toUInt32 31)).toInt32) &&& (zI (858993459))))).toUInt32 >>> (((zI (4))).toUInt32 &&& Int32.toUInt32 31)).toInt32)) &&& (zI (252645135))) + ((((((((zI ((a : Int)) - (((((zI ((a : Int)))).toUInt32 >>> (((zI (1))).toUInt32 &&& Int32.toUInt32 31)).toInt32) &&& (zI (1431655765)))) &&& (zI (858993459))) + (((((zI ((a : Int)) - (((((zI ((a : Int)))).toUInt32 >>> (((zI (1))).toUInt32 &&& Int32.toUInt32 31)).toInt32) &&& (zI (1431655765))))).toUInt32 >>> (((zI (2))).toUInt32 &&& Int32.toUInt32 31)).toInt32) &&& (zI (858993459)))) + ((((((zI ((a : Int)) - (((((zI ((a : Int)))).toUInt32 >>> (((zI (1))).toUInt32 &&& Int32.toUInt32 31)).toInt32) &&& (zI (1431655765)))) &&& (zI (858993459))) + (((((zI ((a : Int)) - (((((zI ((a : Int)))).toUInt32 >>> (((zI (1))).toUInt32 &&& Int32.toUInt32 31)).toInt32) &&& (zI (1431655765))))).toUInt32 >>> (((zI (2))).toUInt32 &&& Int32.toUInt32 31)).toInt32) &&& (zI (858993459))))).toUInt32 >>> (((zI (4))).toUInt32 &&& Int32.toUInt32 31)).toInt32)) &&& (zI (252645135)))).toUInt32 >>> (((zI (8))).toUInt32 &&& Int32.toUInt32 31)).toInt32))))]) dJ6_bitCount_0f7a4_40 rfl (by decide) rfl ?_
  refine EV.iload_n (i := 0) dJ6_bitCount_0f7a4_41 rfl rfl ?_
  refine EV.iload_n (i := 0) dJ6_bitCount_0f7a4_42 rfl rfl ?_
  refine EV.bipush dJ6_bitCount_0f7a4_43 (by decide) ?_
  refine EV.iushrW dJ6_bitCount_0f7a4_45 ?_
  refine EV.iaddW dJ6_bitCount_0f7a4_46 ?_
  refine EV.istore_n (i := 0) (lv' := [some (.int ((((((((zI ((a : Int)) - (((((zI ((a : Int)))).toUInt32 >>> (((zI (1))).toUInt32 &&& Int32.toUInt32 31)).toInt32) &&& (zI (1431655765)))) &&& (zI (858993459))) + (((((zI ((a : Int)) - (((((zI ((a : Int)))).toUInt32 >>> (((zI (1))).toUInt32 &&& Int32.toUInt32 31)).toInt32) &&& (zI (1431655765))))).toUInt32 >>> (((zI (2))).toUInt32 &&& Int32.toUInt32 31)).toInt32) &&& (zI (858993459)))) + ((((((zI ((a : Int)) - (((((zI ((a : Int)))).toUInt32 >>> (((zI (1))).toUInt32 &&& Int32.toUInt32 31)).toInt32) &&& (zI (1431655765)))) &&& (zI (858993459))) + (((((zI ((a : Int)) - (((((zI ((a : Int)))).toUInt32 >>> (((zI (1))).toUInt32 &&& Int32.toUInt32 31)).toInt32) &&& (zI (1431655765))))).toUInt32 >>> (((zI (2))).toUInt32 &&& Int32.toUInt32 31)).toInt32) &&& (zI (858993459))))).toUInt32 >>> (((zI (4))).toUInt32 &&& Int32.toUInt32 31)).toInt32)) &&& (zI (252645135))) + ((((((((zI ((a : Int)) - (((((zI ((a : Int)))).toUInt32 >>> (((zI (1))).toUInt32 &&& Int32.toUInt32 31)).toInt32) &&& (zI (1431655765)))) &&& (zI (858993459))) + (((((zI ((a : Int)) - (((((zI ((a : Int)))).toUInt32 >>> (((zI (1))).toUInt32 &&& Int32.toUInt32 31)).toInt32) &&& (zI (1431655765))))).toUInt32 >>> (((zI (2))).toUInt32 &&& Int32.toUInt32 31)).toInt32) &&& (zI (858993459)))) + ((((((zI ((a : Int)) - (((((zI ((a : Int)))).toUInt32 >>> (((zI (1))).toUInt32 &&& Int32.toUInt32 31)).toInt32) &&& (zI (1431655765)))) &&& (zI (858993459))) + (((((zI ((a : Int)) - (((((zI ((a : Int)))).toUInt32 >>> (((zI (1))).toUInt32 &&& Int32.toUInt32 31)).toInt32) &&& (zI (1431655765))))).toUInt32 >>> (((zI (2))).toUInt32 &&& Int32.toUInt32 31)).toInt32) &&& (zI (858993459))))).toUInt32 >>> (((zI (4))).toUInt32 &&& Int32.toUInt32 31)).toInt32)) &&& (zI (252645135)))).toUInt32 >>> (((zI (8))).toUInt32 &&& Int32.toUInt32 31)).toInt32)) + (((((((((zI ((a : Int)) - (((((zI ((a : Int)))).toUInt32 >>> (((zI (1))).toUInt32 &&& Int32.toUInt32 31)).toInt32) &&& (zI (1431655765)))) &&& (zI (858993459))) + (((((zI ((a : Int)) - (((((zI ((a : Int)))).toUInt32 >>> (((zI (1))).toUInt32 &&& Int32.toUInt32 31)).toInt32) &&& (zI (1431655765))))).toUInt32 >>> (((zI (2))).toUInt32 &&& Int32.toUInt32 31)).toInt32) &&& (zI (858993459)))) + ((((((zI ((a : Int)) - (((((zI ((a : Int)))).toUInt32 >>> (((zI (1))).toUInt32 &&& Int32.toUInt32 31)).toInt32) &&& (zI (1431655765)))) &&& (zI (858993459))) + (((((zI ((a : Int)) - (((((zI ((a : Int)))).toUInt32 >>> (((zI (1))).toUInt32 &&& Int32.toUInt32 31)).toInt32) &&& (zI (1431655765))))).toUInt32 >>> (((zI (2))).toUInt32 &&& Int32.toUInt32 31)).toInt32) &&& (zI (858993459))))).toUInt32 >>> (((zI (4))).toUInt32 &&& Int32.toUInt32 31)).toInt32)) &&& (zI (252645135))) + ((((((((zI ((a : Int)) - (((((zI ((a : Int)))).toUInt32 >>> (((zI (1))).toUInt32 &&& Int32.toUInt32 31)).toInt32) &&& (zI (1431655765)))) &&& (zI (858993459))) + (((((zI ((a : Int)) - (((((zI ((a : Int)))).toUInt32 >>> (((zI (1))).toUInt32 &&& Int32.toUInt32 31)).toInt32) &&& (zI (1431655765))))).toUInt32 >>> (((zI (2))).toUInt32 &&& Int32.toUInt32 31)).toInt32) &&& (zI (858993459)))) + ((((((zI ((a : Int)) - (((((zI ((a : Int)))).toUInt32 >>> (((zI (1))).toUInt32 &&& Int32.toUInt32 31)).toInt32) &&& (zI (1431655765)))) &&& (zI (858993459))) + (((((zI ((a : Int)) - (((((zI ((a : Int)))).toUInt32 >>> (((zI (1))).toUInt32 &&& Int32.toUInt32 31)).toInt32) &&& (zI (1431655765))))).toUInt32 >>> (((zI (2))).toUInt32 &&& Int32.toUInt32 31)).toInt32) &&& (zI (858993459))))).toUInt32 >>> (((zI (4))).toUInt32 &&& Int32.toUInt32 31)).toInt32)) &&& (zI (252645135)))).toUInt32 >>> (((zI (8))).toUInt32 &&& Int32.toUInt32 31)).toInt32))).toUInt32 >>> (((zI (16))).toUInt32 &&& Int32.toUInt32 31)).toInt32))))]) dJ6_bitCount_0f7a4_47 rfl (by decide) rfl ?_
  refine EV.iload_n (i := 0) dJ6_bitCount_0f7a4_48 rfl rfl ?_
  refine EV.bipush dJ6_bitCount_0f7a4_49 (by decide) ?_
  refine EV.iandW dJ6_bitCount_0f7a4_51 ?_
  refine EV.iret rfl dJ6_bitCount_0f7a4_52 ?_
  refine ⟨congrArg (fun z => some (Value.int z)) ?_, rfl⟩
  revert ha
  revert a
  decide +kernel
set_option maxHeartbeats 4000000 in
set_option maxRecDepth 20000 in
theorem c_J9_max_7cf53 (d : Nat) {h : Hp} (x y : Int) (hx : inR x) (hy : inR y) : CT G l mJ9_max_7cf53 (d + 1) 0 0 [.int (zI (x)), .int (zI (y))] h (RQ h ((if x < y then y else x))) := by
  refine CT.ofF (by decide +kernel) (Nat.le_of_ble_eq_true rfl) (List.forall_mem_cons.mpr ⟨rfl, List.forall_mem_cons.mpr ⟨rfl, fun _ h => absurd h List.not_mem_nil⟩⟩) ?_
  refine EV.lvs (lv' := [some (.int (zI (x))), some (.int (zI (y)))]) rfl ?_
  refine EV.iload_n (i := 0) dJ9_max_7cf53_0 rfl rfl ?_
  refine EV.iload_n (i := 1) dJ9_max_7cf53_1 rfl rfl ?_
  refine EV.icmp_lt (t := 9) dJ9_max_7cf53_2 (by decide) (by omega) (fun c2 => ?_) (fun c2 => ?_)
  · skip
    refine EV.iload_n (i := 1) dJ9_max_7cf53_9 rfl rfl ?_
    refine EV.iret rfl dJ9_max_7cf53_10 ?_
    exact rQ (by split <;> omega)
  · skip
    refine EV.iload_n (i := 0) dJ9_max_7cf53_5 rfl rfl ?_
    refine EV.goto (t := 10) dJ9_max_7cf53_6 (by decide) ?_
    refine EV.iret rfl dJ9_max_7cf53_10 ?_
    exact rQ (by split <;> omega)
set_option maxHeartbeats 4000000 in
set_option maxRecDepth 20000 in
theorem c_J9_min_7cf53 (d : Nat) {h : Hp} (x y : Int) (hx : inR x) (hy : inR y) : CT G l mJ9_min_7cf53 (d + 1) 0 0 [.int (zI (x)), .int (zI (y))] h (RQ h ((if y < x then y else x))) := by
  refine CT.ofF (by decide +kernel) (Nat.le_of_ble_eq_true rfl) (List.forall_mem_cons.mpr ⟨rfl, List.forall_mem_cons.mpr ⟨rfl, fun _ h => absurd h List.not_mem_nil⟩⟩) ?_
  refine EV.lvs (lv' := [some (.int (zI (x))), some (.int (zI (y)))]) rfl ?_
  refine EV.iload_n (i := 0) dJ9_min_7cf53_0 rfl rfl ?_
  refine EV.iload_n (i := 1) dJ9_min_7cf53_1 rfl rfl ?_
  refine EV.icmp_gt (t := 9) dJ9_min_7cf53_2 (by decide) (by omega) (fun c2 => ?_) (fun c2 => ?_)
  · skip
    refine EV.iload_n (i := 1) dJ9_min_7cf53_9 rfl rfl ?_
    refine EV.iret rfl dJ9_min_7cf53_10 ?_
    exact rQ (by split <;> omega)
  · skip
    refine EV.iload_n (i := 0) dJ9_min_7cf53_5 rfl rfl ?_
    refine EV.goto (t := 10) dJ9_min_7cf53_6 (by decide) ?_
    refine EV.iret rfl dJ9_min_7cf53_10 ?_
    exact rQ (by split <;> omega)
set_option maxHeartbeats 4000000 in
set_option maxRecDepth 20000 in
theorem c_J9_floorMod_7cf53 (d : Nat) {h : Hp} (x n : Int) (hx : inR x) (hn : 0 < n ∧ n ≤ 8) : CT G l mJ9_floorMod_7cf53 (d + 1) 0 0 [.int (zI (x)), .int (zI (n))] h (RQ h ((x % n))) := by
  refine CT.ofF (by decide +kernel) (Nat.le_of_ble_eq_true rfl) (List.forall_mem_cons.mpr ⟨rfl, List.forall_mem_cons.mpr ⟨rfl, fun _ h => absurd h List.not_mem_nil⟩⟩) ?_
  refine EV.lvs (lv' := [some (.int (zI (x))), some (.int (zI (n))), none]) rfl ?_
  refine EV.iload_n (i := 0) dJ9_floorMod_7cf53_0 rfl rfl ?_
  refine EV.iload_n (i := 1) dJ9_floorMod_7cf53_1 rfl rfl ?_
  refine EV.irem dJ9_floorMod_7cf53_2 (by omega) ?_
  refine EV.istore_n (i := 2) (lv' := [some (.int (zI (x))), some (.int (zI (n))), some (.int (zI ((Int.tmod x n))))]) dJ9_floorMod_7cf53_3 rfl (by decide) rfl ?_
  refine EV.iload_n (i := 0) dJ9_floorMod_7cf53_4 rfl rfl ?_
  refine EV.iload_n (i := 1) dJ9_floorMod_7cf53_5 rfl rfl ?_
  refine EV.ixorW dJ9_floorMod_7cf53_6 ?_
  refine EV.ifgeW (t := 18) dJ9_floorMod_7cf53_7 (by decide) (fun c7 => ?_) (fun c7 => ?_)
  · skip
    have hs := (fm_sgn hx hn).mp c7
    refine EV.iload_n (i := 2) dJ9_floorMod_7cf53_18 rfl rfl ?_
    refine EV.iret rfl dJ9_floorMod_7cf53_19 ?_
    exact rQ (fm_pos hs)
  · skip
    have hs : x < 0 := Int.not_le.mp (fun z => c7 ((fm_sgn hx hn).mpr z))
    refine EV.iload_n (i := 2) dJ9_floorMod_7cf53_10 rfl rfl ?_
    have hb := tm_bnd (x := x) hn
    refine EV.ifeq (t := 18) dJ9_floorMod_7cf53_11 (by decide) (by omega) (fun c11 => ?_) (fun c11 => ?_)
    · skip
      refine EV.iload_n (i := 2) dJ9_floorMod_7cf53_18 rfl rfl ?_
      refine EV.iret rfl dJ9_floorMod_7cf53_19 ?_
      exact rQ (fm_zero c11)
    · skip
      refine EV.iload_n (i := 2) dJ9_floorMod_7cf53_14 rfl rfl ?_
      refine EV.iload_n (i := 1) dJ9_floorMod_7cf53_15 rfl rfl ?_
      refine EV.iadd dJ9_floorMod_7cf53_16 ?_
      refine EV.iret rfl dJ9_floorMod_7cf53_17 ?_
      exact rQ (fm_neg hs hn c11)
end
