theorem sg_u1 (T : ST) (i : Nat) (t : Int) : uI (sgOf T) (2 * i) t = sgOf (T.1, uI T.2.1 i t, T.2.2) := by
  funext j
  unfold uI sgOf
  by_cases h : j = 2 * i
  · subst h; rw [if_pos rfl, if_pos (by omega)]; show t = if 2 * i / 2 = i then t else _; rw [if_pos (by omega)]
  · rw [if_neg h]
    by_cases h2 : j % 2 = 0
    · rw [if_pos h2, if_pos h2]; show _ = if j / 2 = i then t else _; rw [if_neg (by omega)]
    · rw [if_neg h2, if_neg h2]
theorem sg_u2 (T : ST) (i : Nat) (t : Int) : uI (sgOf T) (2 * i + 1) t = sgOf (T.1, T.2.1, uI T.2.2 i t) := by
  funext j
  unfold uI sgOf
  by_cases h : j = 2 * i + 1
  · subst h; rw [if_pos rfl, if_neg (by omega)]; show t = if (2 * i + 1) / 2 = i then t else _; rw [if_pos (by omega)]
  · rw [if_neg h]
    by_cases h2 : j % 2 = 0
    · rw [if_pos h2, if_pos h2]
    · rw [if_neg h2, if_neg h2]; show _ = if j / 2 = i then t else _; rw [if_neg (by omega)]
section
variable {G : GG} {l : Launch}
variable {h : Hp} {A : Nat → Nat} {N : Nat} {F : FK} {P : PL} {T : ST} {K : PD} {la ma ik : Nat → Int} {Y : CY}
set_option maxHeartbeats 4000000 in
set_option maxRecDepth 20000 in
theorem c_X7_say (d : Nat) (hA : inA A N) (hK : WFK K) (hW : WF F) (hP : WFP P) (hT : WFT T) (z : Int) (hz : inR z) : CT G l mX7_say (d + 2) 0 0 [.ref (A 0), .int (zI (z))] (HP G h A N Y (F, P, T, K, la, ma, ik)) (fun o h' => o = some (.int (zI (sayR K z))) ∧ h' = HP G h A N Y (F, P, T, sayK K z, la, ma, ik)) := by
  refine CT.of (by decide) (Nat.le_of_ble_eq_true rfl) (List.forall_mem_cons.mpr ⟨rfl, List.forall_mem_cons.mpr ⟨rfl, fun _ h => absurd h List.not_mem_nil⟩⟩) ?_
  refine EV.lvs (lv' := [some (.ref (A 0)), some (.int (zI (z)))]) rfl ?_
  have g0 : (HP G h A N Y (F, P, T, K, la, ma, ik)) (A 0) = some (obj 7 [.int (zI ((F.1 : Int))), .ref (A 1), .ref (A 2), .ref (A 3), .int (zI ((P.1 : Int))), .ref (A 4), .ref (A 5), .int (zI ((T.1 : Int))), .ref (A 6), .int (zI ((K.1 : Int))), .ref (A 7), .ref (A 8), .ref (A 9), .ref (A 10)]) := hGet hA _ _ 0 (by decide)
  have g7 : (HP G h A N Y (F, P, T, K, la, ma, ik)) (A 7) = some (arI G 60 K.2) := hGet hA _ _ 7 (by decide)
  have hK6 := hK.1
  have hP6 := hP.1
  have hT6 := hT.1
  have hth := hW.1
  have hsf : ∀ q, q < 6 → F.1.testBit q = true → F.1.testBit q = true := fun _ _ z => z
  have hM : ModAt G (HP G h A N Y (F, P, T, K, la, ma, ik)) (A 0) (fun i => A (i + 1)) F P T K la ma ik := hMod hA
  refine EV.iload_n (i := 1) dX7_say_0 rfl rfl ?_
  refine EV.bipush dX7_say_1 (by decide) ?_
  refine EV.bipush dX7_say_3 (by decide) ?_
  refine EV.callSr (M' := mX7_in) (as := [.int (zI (z)), .int (zI (33)), .int (zI (126))]) (rest := []) ml_X7_45 sm_X7_in co_X7_in dX7_say_5 (c_X7_in (d + 0) z 33 126 (by omega) (by omega) (by omega)) rfl rfl (Nat.le_of_ble_eq_true rfl) ?_
  refine EV.ifneB (t := 14) dX7_say_8 (by decide) (fun c8 => ?_) (fun c8 => ?_)
  · skip
    have c8r := of_rg c8
    refine EV.aload_n (i := 0) dX7_say_14 rfl rfl ?_
    refine EV.getf fl_X7_53 dX7_say_15 g0 rfl ?_
    refine EV.bipush dX7_say_18 (by decide) ?_
    refine EV.icmp_ne (t := 26) dX7_say_20 (by decide) (by omega) (fun c20 => ?_) (fun c20 => ?_)
    · skip
      refine EV.aload_n (i := 0) dX7_say_26 rfl rfl ?_
      refine EV.getf fl_X7_28 dX7_say_27 g0 rfl ?_
      refine EV.aload_n (i := 0) dX7_say_30 rfl rfl ?_
      refine EV.getf fl_X7_53 dX7_say_31 g0 rfl ?_
      refine EV.iload_n (i := 1) dX7_say_34 rfl rfl ?_
      refine EV.iast dX7_say_35 g7 (K.1) (rfl) (by omega) ?_
      refine EV.hps (h' := HP G h A N Y (F, P, T, (K.1, (uI K.2 K.1 z)), la, ma, ik)) (mK2 hA _) ?_
      have g0 : (HP G h A N Y (F, P, T, (K.1, (uI K.2 K.1 z)), la, ma, ik)) (A 0) = some (obj 7 [.int (zI ((F.1 : Int))), .ref (A 1), .ref (A 2), .ref (A 3), .int (zI ((P.1 : Int))), .ref (A 4), .ref (A 5), .int (zI ((T.1 : Int))), .ref (A 6), .int (zI ((K.1 : Int))), .ref (A 7), .ref (A 8), .ref (A 9), .ref (A 10)]) := hGet hA _ _ 0 (by decide)
      have g7 : (HP G h A N Y (F, P, T, (K.1, (uI K.2 K.1 z)), la, ma, ik)) (A 7) = some (arI G 60 (uI K.2 K.1 z)) := hGet hA _ _ 7 (by decide)
      refine EV.aload_n (i := 0) dX7_say_36 rfl rfl ?_
      refine EV.dup dX7_say_37 rfl ?_
      refine EV.getf fl_X7_53 dX7_say_38 g0 rfl ?_
      refine EV.iconst dX7_say_41 ?_
      refine EV.iadd dX7_say_42 ?_
      refine EV.putf (fs' := [.int (zI ((F.1 : Int))), .ref (A 1), .ref (A 2), .ref (A 3), .int (zI ((P.1 : Int))), .ref (A 4), .ref (A 5), .int (zI ((T.1 : Int))), .ref (A 6), .int (zI (((K.1 : Int) + 1))), .ref (A 7), .ref (A 8), .ref (A 9), .ref (A 10)]) fp_X7_53 dX7_say_43 g0 (Nat.le_of_ble_eq_true rfl) rfl rfl rfl ?_
      refine EV.hps (h' := HP G h A N Y (F, P, T, ((K.1 + 1), (uI K.2 K.1 z)), la, ma, ik)) (mX0 hA F.1 P.1 T.1 (K.1 + 1)) ?_
      have g0 : (HP G h A N Y (F, P, T, ((K.1 + 1), (uI K.2 K.1 z)), la, ma, ik)) (A 0) = some (obj 7 [.int (zI ((F.1 : Int))), .ref (A 1), .ref (A 2), .ref (A 3), .int (zI ((P.1 : Int))), .ref (A 4), .ref (A 5), .int (zI ((T.1 : Int))), .ref (A 6), .int (zI (((K.1 + 1 : Nat) : Int))), .ref (A 7), .ref (A 8), .ref (A 9), .ref (A 10)]) := hGet hA _ _ 0 (by decide)
      have g7 : (HP G h A N Y (F, P, T, ((K.1 + 1), (uI K.2 K.1 z)), la, ma, ik)) (A 7) = some (arI G 60 (uI K.2 K.1 z)) := hGet hA _ _ 7 (by decide)
      refine EV.aload_n (i := 0) dX7_say_46 rfl rfl ?_
      refine EV.getf fl_X7_53 dX7_say_47 g0 rfl ?_
      refine EV.iret rfl dX7_say_50 ?_
      exact ⟨by rw [sayR, if_pos c8, if_pos (by omega)]; rfl, by rw [sayK, if_pos c8, if_pos (by omega)]; rfl⟩
    · skip
      refine EV.bipush dX7_say_23 (by decide) ?_
      refine EV.iret rfl dX7_say_25 ?_
      exact ⟨by rw [sayR, if_pos c8, if_neg (by omega)], by rw [sayK, if_pos c8, if_neg (by omega)]⟩
  · skip
    have c8r := of_nrg c8
    refine EV.bipush dX7_say_11 (by decide) ?_
    refine EV.iret rfl dX7_say_13 ?_
    exact ⟨by simp [sayR, c8], by simp [sayK, c8]⟩
set_option maxHeartbeats 4000000 in
set_option maxRecDepth 20000 in
theorem c_X7_wipe (d : Nat) (hA : inA A N) (hK : WFK K) (hW : WF F) (hP : WFP P) (hT : WFT T)  : CT G l mX7_wipe (d + 1) 0 0 [.ref (A 0)] (HP G h A N Y (F, P, T, K, la, ma, ik)) (fun o h' => o = some (.int (zI ((K.1 : Int)))) ∧ h' = HP G h A N Y (F, P, T, (0, K.2), la, ma, ik)) := by
  refine CT.of (by decide) (Nat.le_of_ble_eq_true rfl) (List.forall_mem_cons.mpr ⟨rfl, fun _ h => absurd h List.not_mem_nil⟩) ?_
  refine EV.lvs (lv' := [some (.ref (A 0)), none]) rfl ?_
  have g0 : (HP G h A N Y (F, P, T, K, la, ma, ik)) (A 0) = some (obj 7 [.int (zI ((F.1 : Int))), .ref (A 1), .ref (A 2), .ref (A 3), .int (zI ((P.1 : Int))), .ref (A 4), .ref (A 5), .int (zI ((T.1 : Int))), .ref (A 6), .int (zI ((K.1 : Int))), .ref (A 7), .ref (A 8), .ref (A 9), .ref (A 10)]) := hGet hA _ _ 0 (by decide)
  have hK6 := hK.1
  have hP6 := hP.1
  have hT6 := hT.1
  have hth := hW.1
  have hsf : ∀ q, q < 6 → F.1.testBit q = true → F.1.testBit q = true := fun _ _ z => z
  have hM : ModAt G (HP G h A N Y (F, P, T, K, la, ma, ik)) (A 0) (fun i => A (i + 1)) F P T K la ma ik := hMod hA
  refine EV.aload_n (i := 0) dX7_wipe_0 rfl rfl ?_
  refine EV.getf fl_X7_53 dX7_wipe_1 g0 rfl ?_
  refine EV.istore_n (i := 1) (lv' := [some (.ref (A 0)), some (.int (zI ((K.1 : Int))))]) dX7_wipe_4 rfl (by decide) rfl ?_
  refine EV.aload_n (i := 0) dX7_wipe_5 rfl rfl ?_
  refine EV.iconst dX7_wipe_6 ?_
  refine EV.putf (fs' := [.int (zI ((F.1 : Int))), .ref (A 1), .ref (A 2), .ref (A 3), .int (zI ((P.1 : Int))), .ref (A 4), .ref (A 5), .int (zI ((T.1 : Int))), .ref (A 6), .int (zI (0)), .ref (A 7), .ref (A 8), .ref (A 9), .ref (A 10)]) fp_X7_53 dX7_wipe_7 g0 (Nat.le_of_ble_eq_true rfl) rfl rfl rfl ?_
  refine EV.hps (h' := HP G h A N Y (F, P, T, (0, K.2), la, ma, ik)) (mX0 hA F.1 P.1 T.1 0) ?_
  have g0 : (HP G h A N Y (F, P, T, (0, K.2), la, ma, ik)) (A 0) = some (obj 7 [.int (zI ((F.1 : Int))), .ref (A 1), .ref (A 2), .ref (A 3), .int (zI ((P.1 : Int))), .ref (A 4), .ref (A 5), .int (zI ((T.1 : Int))), .ref (A 6), .int (zI ((0 : Int))), .ref (A 7), .ref (A 8), .ref (A 9), .ref (A 10)]) := hGet hA _ _ 0 (by decide)
  refine EV.iload_n (i := 1) dX7_wipe_10 rfl rfl ?_
  refine EV.iret rfl dX7_wipe_11 ?_
  exact ⟨rfl, rfl⟩
set_option maxHeartbeats 4000000 in
set_option maxRecDepth 20000 in
theorem c_X7_forget (d : Nat) (hA : inA A N) (hK : WFK K) (hW : WF F) (hP : WFP P) (hT : WFT T)  : CT G l mX7_forget (d + 1) 0 0 [.ref (A 0)] (HP G h A N Y (F, P, T, K, la, ma, ik)) (fun o h' => o = some (.int (zI ((T.1 : Int)))) ∧ h' = HP G h A N Y (F, P, (0, T.2), K, la, ma, ik)) := by
  refine CT.of (by decide) (Nat.le_of_ble_eq_true rfl) (List.forall_mem_cons.mpr ⟨rfl, fun _ h => absurd h List.not_mem_nil⟩) ?_
  refine EV.lvs (lv' := [some (.ref (A 0)), none]) rfl ?_
  have g0 : (HP G h A N Y (F, P, T, K, la, ma, ik)) (A 0) = some (obj 7 [.int (zI ((F.1 : Int))), .ref (A 1), .ref (A 2), .ref (A 3), .int (zI ((P.1 : Int))), .ref (A 4), .ref (A 5), .int (zI ((T.1 : Int))), .ref (A 6), .int (zI ((K.1 : Int))), .ref (A 7), .ref (A 8), .ref (A 9), .ref (A 10)]) := hGet hA _ _ 0 (by decide)
  have hK6 := hK.1
  have hP6 := hP.1
  have hT6 := hT.1
  have hth := hW.1
  have hsf : ∀ q, q < 6 → F.1.testBit q = true → F.1.testBit q = true := fun _ _ z => z
  have hM : ModAt G (HP G h A N Y (F, P, T, K, la, ma, ik)) (A 0) (fun i => A (i + 1)) F P T K la ma ik := hMod hA
  refine EV.aload_n (i := 0) dX7_forget_0 rfl rfl ?_
  refine EV.getf fl_X7_128 dX7_forget_1 g0 rfl ?_
  refine EV.istore_n (i := 1) (lv' := [some (.ref (A 0)), some (.int (zI ((T.1 : Int))))]) dX7_forget_4 rfl (by decide) rfl ?_
  refine EV.aload_n (i := 0) dX7_forget_5 rfl rfl ?_
  refine EV.iconst dX7_forget_6 ?_
  refine EV.putf (fs' := [.int (zI ((F.1 : Int))), .ref (A 1), .ref (A 2), .ref (A 3), .int (zI ((P.1 : Int))), .ref (A 4), .ref (A 5), .int (zI (0)), .ref (A 6), .int (zI ((K.1 : Int))), .ref (A 7), .ref (A 8), .ref (A 9), .ref (A 10)]) fp_X7_128 dX7_forget_7 g0 (Nat.le_of_ble_eq_true rfl) rfl rfl rfl ?_
  refine EV.hps (h' := HP G h A N Y (F, P, (0, T.2.1, T.2.2), K, la, ma, ik)) (mX0 hA F.1 P.1 0 K.1) ?_
  have g0 : (HP G h A N Y (F, P, (0, T.2.1, T.2.2), K, la, ma, ik)) (A 0) = some (obj 7 [.int (zI ((F.1 : Int))), .ref (A 1), .ref (A 2), .ref (A 3), .int (zI ((P.1 : Int))), .ref (A 4), .ref (A 5), .int (zI ((0 : Int))), .ref (A 6), .int (zI ((K.1 : Int))), .ref (A 7), .ref (A 8), .ref (A 9), .ref (A 10)]) := hGet hA _ _ 0 (by decide)
  refine EV.iload_n (i := 1) dX7_forget_10 rfl rfl ?_
  refine EV.iret rfl dX7_forget_11 ?_
  exact ⟨rfl, rfl⟩
set_option maxHeartbeats 4000000 in
set_option maxRecDepth 20000 in
theorem c_X7_exile (d : Nat) (hA : inA A N) (hK : WFK K) (hW : WF F) (hP : WFP P) (hT : WFT T) (z : Int) (hz : inR z) : CT G l mX7_exile (d + 3) 0 0 [.ref (A 0), .int (zI (z))] (HP G h A N Y (F, P, T, K, la, ma, ik)) (fun o h' => o = some (.int (zI (exR F z))) ∧ h' = HP G h A N Y (exF F z, P, T, K, la, ma, ik)) := by
  refine CT.of (by decide) (Nat.le_of_ble_eq_true rfl) (List.forall_mem_cons.mpr ⟨rfl, List.forall_mem_cons.mpr ⟨rfl, fun _ h => absurd h List.not_mem_nil⟩⟩) ?_
  refine EV.lvs (lv' := [some (.ref (A 0)), some (.int (zI (z)))]) rfl ?_
  have g0 : (HP G h A N Y (F, P, T, K, la, ma, ik)) (A 0) = some (obj 7 [.int (zI ((F.1 : Int))), .ref (A 1), .ref (A 2), .ref (A 3), .int (zI ((P.1 : Int))), .ref (A 4), .ref (A 5), .int (zI ((T.1 : Int))), .ref (A 6), .int (zI ((K.1 : Int))), .ref (A 7), .ref (A 8), .ref (A 9), .ref (A 10)]) := hGet hA _ _ 0 (by decide)
  have hK6 := hK.1
  have hP6 := hP.1
  have hT6 := hT.1
  have hth := hW.1
  have hsf : ∀ q, q < 6 → F.1.testBit q = true → F.1.testBit q = true := fun _ _ z => z
  have hM : ModAt G (HP G h A N Y (F, P, T, K, la, ma, ik)) (A 0) (fun i => A (i + 1)) F P T K la ma ik := hMod hA
  refine EV.aload_n (i := 0) dX7_exile_0 rfl rfl ?_
  refine EV.iload_n (i := 1) dX7_exile_1 rfl rfl ?_
  refine EV.callVr (M' := mX7_isThere) (as := [.int (zI (z))]) (rest := []) ml_X7_67 im_X7_isThere se_X7_isThere rfl co_X7_isThere dX7_exile_2 g0 (c_X7_isThere (d + 0) hM hW z (by omega)) rfl rfl (Nat.le_of_ble_eq_true rfl) ?_
  refine EV.ifneB (t := 10) dX7_exile_5 (by decide) (fun c5 => ?_) (fun c5 => ?_)
  · skip
    obtain ⟨p, hp, rfl, hb⟩ := thI_p c5
    refine EV.aload_n (i := 0) dX7_exile_10 rfl rfl ?_
    refine EV.dup dX7_exile_11 rfl ?_
    refine EV.getf fl_X7_41 dX7_exile_12 g0 rfl ?_
    refine EV.iconst dX7_exile_15 ?_
    refine EV.iload_n (i := 1) dX7_exile_16 rfl rfl ?_
    refine EV.ishlW dX7_exile_17 ?_
    refine EV.iconst dX7_exile_18 ?_
    refine EV.ixorW dX7_exile_19 ?_
    refine EV.iandW dX7_exile_20 ?_
    refine EV.top (y := zI (((clr F.1 p : Nat) : Int))) (by rw [zI_shl1 (by omega)]; exact clr_z F.1 hth p hp) ?_
    have hcl := clr_lt (p := p) hth
    refine EV.putf (fs' := [.int (zI (((clr F.1 p : Nat) : Int))), .ref (A 1), .ref (A 2), .ref (A 3), .int (zI ((P.1 : Int))), .ref (A 4), .ref (A 5), .int (zI ((T.1 : Int))), .ref (A 6), .int (zI ((K.1 : Int))), .ref (A 7), .ref (A 8), .ref (A 9), .ref (A 10)]) fp_X7_41 dX7_exile_21 g0 (Nat.le_of_ble_eq_true rfl) rfl rfl rfl ?_
    refine EV.hps (h' := HP G h A N Y (((clr F.1 p), F.2.1, F.2.2.1, F.2.2.2), P, T, K, la, ma, ik)) (mX0 hA (clr F.1 p) P.1 T.1 K.1) ?_
    have g0 : (HP G h A N Y (((clr F.1 p), F.2.1, F.2.2.1, F.2.2.2), P, T, K, la, ma, ik)) (A 0) = some (obj 7 [.int (zI (((clr F.1 p : Nat) : Int))), .ref (A 1), .ref (A 2), .ref (A 3), .int (zI ((P.1 : Int))), .ref (A 4), .ref (A 5), .int (zI ((T.1 : Int))), .ref (A 6), .int (zI ((K.1 : Int))), .ref (A 7), .ref (A 8), .ref (A 9), .ref (A 10)]) := hGet hA _ _ 0 (by decide)
    refine EV.aload_n (i := 0) dX7_exile_24 rfl rfl ?_
    refine EV.getf fl_X7_41 dX7_exile_25 g0 rfl ?_
    refine EV.callSr (M' := mX7_bits) (as := [.int (zI (((clr F.1 p : Nat) : Int)))]) (rest := []) ml_X7_70 sm_X7_bits co_X7_bits dX7_exile_28 (c_X7_bits (d + 1) (clr F.1 p) (by omega)) rfl rfl (Nat.le_of_ble_eq_true rfl) ?_
    refine EV.iret rfl dX7_exile_31 ?_
    exact ⟨by rw [exR, if_pos c5, Int.toNat_natCast], by rw [exF, if_pos c5, Int.toNat_natCast]⟩
  · skip
    refine EV.iconst dX7_exile_8 ?_
    refine EV.iret rfl dX7_exile_9 ?_
    exact ⟨by simp [exR, c5], by simp [exF, c5]⟩
set_option maxHeartbeats 4000000 in
set_option maxRecDepth 20000 in
theorem c_X7_seen (d : Nat) (hA : inA A N) (hK : WFK K) (hW : WF F) (hP : WFP P) (hT : WFT T) (t s : Int) (ht : inR t) (hs : inR s) : CT G l mX7_seen (d + 3) 0 0 [.ref (A 0), .int (zI (t)), .int (zI (s))] (HP G h A N Y (F, P, T, K, la, ma, ik)) (fun o h' => o = some (.int (zI (seenR T t s))) ∧ h' = HP G h A N Y (F, P, seenT T t s, K, la, ma, ik)) := by
  refine CT.of (by decide) (Nat.le_of_ble_eq_true rfl) (List.forall_mem_cons.mpr ⟨rfl, List.forall_mem_cons.mpr ⟨rfl, List.forall_mem_cons.mpr ⟨rfl, fun _ h => absurd h List.not_mem_nil⟩⟩⟩) ?_
  refine EV.lvs (lv' := [some (.ref (A 0)), some (.int (zI (t))), some (.int (zI (s)))]) rfl ?_
  have g0 : (HP G h A N Y (F, P, T, K, la, ma, ik)) (A 0) = some (obj 7 [.int (zI ((F.1 : Int))), .ref (A 1), .ref (A 2), .ref (A 3), .int (zI ((P.1 : Int))), .ref (A 4), .ref (A 5), .int (zI ((T.1 : Int))), .ref (A 6), .int (zI ((K.1 : Int))), .ref (A 7), .ref (A 8), .ref (A 9), .ref (A 10)]) := hGet hA _ _ 0 (by decide)
  have g6 : (HP G h A N Y (F, P, T, K, la, ma, ik)) (A 6) = some (arI G 12 (sgOf T)) := hGet hA _ _ 6 (by decide)
  have hK6 := hK.1
  have hP6 := hP.1
  have hT6 := hT.1
  have hth := hW.1
  have hsf : ∀ q, q < 6 → F.1.testBit q = true → F.1.testBit q = true := fun _ _ z => z
  have hM : ModAt G (HP G h A N Y (F, P, T, K, la, ma, ik)) (A 0) (fun i => A (i + 1)) F P T K la ma ik := hMod hA
  refine EV.iload_n (i := 1) dX7_seen_0 rfl rfl ?_
  refine EV.callSr (M' := mX7_isDate) (as := [.int (zI (t))]) (rest := []) ml_X7_77 sm_X7_isDate co_X7_isDate dX7_seen_1 (c_X7_isDate (d + 0) t (by omega)) rfl rfl (Nat.le_of_ble_eq_true rfl) ?_
  refine EV.ifeqB (t := 16) dX7_seen_4 (by decide) (fun c4 => ?_) (fun c4 => ?_)
  · skip
    have c4r := of_nrg c4
    refine EV.bipush dX7_seen_16 (by decide) ?_
    refine EV.iret rfl dX7_seen_18 ?_
    exact ⟨by simp [seenR, c4], by simp [seenT, c4]⟩
  · skip
    have c4r := of_rg c4
    refine EV.iload_n (i := 2) dX7_seen_7 rfl rfl ?_
    refine EV.iconst dX7_seen_8 ?_
    refine EV.iconst dX7_seen_9 ?_
    refine EV.callSr (M' := mX7_in) (as := [.int (zI (s)), .int (zI (0)), .int (zI (1))]) (rest := []) ml_X7_45 sm_X7_in co_X7_in dX7_seen_10 (c_X7_in (d + 1) s 0 1 (by omega) (by omega) (by omega)) rfl rfl (Nat.le_of_ble_eq_true rfl) ?_
    refine EV.ifneB (t := 19) dX7_seen_13 (by decide) (fun c13 => ?_) (fun c13 => ?_)
    · skip
      have c13r := of_rg c13
      refine EV.aload_n (i := 0) dX7_seen_19 rfl rfl ?_
      refine EV.getf fl_X7_128 dX7_seen_20 g0 rfl ?_
      refine EV.bipush dX7_seen_23 (by decide) ?_
      refine EV.icmp_ne (t := 31) dX7_seen_25 (by decide) (by omega) (fun c25 => ?_) (fun c25 => ?_)
      · skip
        refine EV.aload_n (i := 0) dX7_seen_31 rfl rfl ?_
        refine EV.getf fl_X7_25 dX7_seen_32 g0 rfl ?_
        refine EV.iconst dX7_seen_35 ?_
        refine EV.aload_n (i := 0) dX7_seen_36 rfl rfl ?_
        refine EV.getf fl_X7_128 dX7_seen_37 g0 rfl ?_
        refine EV.imul dX7_seen_40 ?_
        refine EV.iload_n (i := 1) dX7_seen_41 rfl rfl ?_
        refine EV.iast dX7_seen_42 g6 (2 * T.1) (by omega) (by omega) ?_
        refine EV.hps (h' := HP G h A N Y (F, P, (T.1, (uI T.2.1 T.1 t), T.2.2), K, la, ma, ik)) (mT2 hA _ _ _ (sg_u1 _ _ _)) ?_
        have g0 : (HP G h A N Y (F, P, (T.1, (uI T.2.1 T.1 t), T.2.2), K, la, ma, ik)) (A 0) = some (obj 7 [.int (zI ((F.1 : Int))), .ref (A 1), .ref (A 2), .ref (A 3), .int (zI ((P.1 : Int))), .ref (A 4), .ref (A 5), .int (zI ((T.1 : Int))), .ref (A 6), .int (zI ((K.1 : Int))), .ref (A 7), .ref (A 8), .ref (A 9), .ref (A 10)]) := hGet hA _ _ 0 (by decide)
        have g6 : (HP G h A N Y (F, P, (T.1, (uI T.2.1 T.1 t), T.2.2), K, la, ma, ik)) (A 6) = some (arI G 12 (sgOf (T.1, (uI T.2.1 T.1 t), T.2.2))) := hGet hA _ _ 6 (by decide)
        refine EV.aload_n (i := 0) dX7_seen_43 rfl rfl ?_
        refine EV.getf fl_X7_25 dX7_seen_44 g0 rfl ?_
        refine EV.iconst dX7_seen_47 ?_
        refine EV.aload_n (i := 0) dX7_seen_48 rfl rfl ?_
        refine EV.getf fl_X7_128 dX7_seen_49 g0 rfl ?_
        refine EV.imul dX7_seen_52 ?_
        refine EV.iconst dX7_seen_53 ?_
        refine EV.iadd dX7_seen_54 ?_
        refine EV.iload_n (i := 2) dX7_seen_55 rfl rfl ?_
        refine EV.iast dX7_seen_56 g6 (2 * T.1 + 1) (by omega) (by omega) ?_
        refine EV.hps (h' := HP G h A N Y (F, P, (T.1, (uI T.2.1 T.1 t), (uI T.2.2 T.1 s)), K, la, ma, ik)) (mT2 hA _ _ _ (sg_u2 _ _ _)) ?_
        have g0 : (HP G h A N Y (F, P, (T.1, (uI T.2.1 T.1 t), (uI T.2.2 T.1 s)), K, la, ma, ik)) (A 0) = some (obj 7 [.int (zI ((F.1 : Int))), .ref (A 1), .ref (A 2), .ref (A 3), .int (zI ((P.1 : Int))), .ref (A 4), .ref (A 5), .int (zI ((T.1 : Int))), .ref (A 6), .int (zI ((K.1 : Int))), .ref (A 7), .ref (A 8), .ref (A 9), .ref (A 10)]) := hGet hA _ _ 0 (by decide)
        have g6 : (HP G h A N Y (F, P, (T.1, (uI T.2.1 T.1 t), (uI T.2.2 T.1 s)), K, la, ma, ik)) (A 6) = some (arI G 12 (sgOf (T.1, (uI T.2.1 T.1 t), (uI T.2.2 T.1 s)))) := hGet hA _ _ 6 (by decide)
        refine EV.aload_n (i := 0) dX7_seen_57 rfl rfl ?_
        refine EV.dup dX7_seen_58 rfl ?_
        refine EV.getf fl_X7_128 dX7_seen_59 g0 rfl ?_
        refine EV.iconst dX7_seen_62 ?_
        refine EV.iadd dX7_seen_63 ?_
        refine EV.putf (fs' := [.int (zI ((F.1 : Int))), .ref (A 1), .ref (A 2), .ref (A 3), .int (zI ((P.1 : Int))), .ref (A 4), .ref (A 5), .int (zI (((T.1 : Int) + 1))), .ref (A 6), .int (zI ((K.1 : Int))), .ref (A 7), .ref (A 8), .ref (A 9), .ref (A 10)]) fp_X7_128 dX7_seen_64 g0 (Nat.le_of_ble_eq_true rfl) rfl rfl rfl ?_
        refine EV.hps (h' := HP G h A N Y (F, P, ((T.1 + 1), (uI T.2.1 T.1 t), (uI T.2.2 T.1 s)), K, la, ma, ik)) (mX0 hA F.1 P.1 (T.1 + 1) K.1) ?_
        have g0 : (HP G h A N Y (F, P, ((T.1 + 1), (uI T.2.1 T.1 t), (uI T.2.2 T.1 s)), K, la, ma, ik)) (A 0) = some (obj 7 [.int (zI ((F.1 : Int))), .ref (A 1), .ref (A 2), .ref (A 3), .int (zI ((P.1 : Int))), .ref (A 4), .ref (A 5), .int (zI (((T.1 + 1 : Nat) : Int))), .ref (A 6), .int (zI ((K.1 : Int))), .ref (A 7), .ref (A 8), .ref (A 9), .ref (A 10)]) := hGet hA _ _ 0 (by decide)
        have g6 : (HP G h A N Y (F, P, ((T.1 + 1), (uI T.2.1 T.1 t), (uI T.2.2 T.1 s)), K, la, ma, ik)) (A 6) = some (arI G 12 (sgOf ((T.1 + 1), (uI T.2.1 T.1 t), (uI T.2.2 T.1 s)))) := hGet hA _ _ 6 (by decide)
        refine EV.aload_n (i := 0) dX7_seen_67 rfl rfl ?_
        refine EV.getf fl_X7_128 dX7_seen_68 g0 rfl ?_
        refine EV.iret rfl dX7_seen_71 ?_
        exact ⟨by rw [seenR, if_pos (by rw [c4, c13]; rfl), if_pos (by omega)]; rfl, by rw [seenT, if_pos (by rw [c4, c13]; rfl), if_pos (by omega)]; rfl⟩
      · skip
        refine EV.bipush dX7_seen_28 (by decide) ?_
        refine EV.iret rfl dX7_seen_30 ?_
        exact ⟨by rw [seenR, if_pos (by rw [c4, c13]; rfl), if_neg (by omega)], by rw [seenT, if_pos (by rw [c4, c13]; rfl), if_neg (by omega)]⟩
    · skip
      have c13r := of_nrg c13
      refine EV.bipush dX7_seen_16 (by decide) ?_
      refine EV.iret rfl dX7_seen_18 ?_
      exact ⟨by simp [seenR, c13], by simp [seenT, c13]⟩
set_option maxHeartbeats 4000000 in
set_option maxRecDepth 20000 in
theorem c_X7_born (d : Nat) (hA : inA A N) (hK : WFK K) (hW : WF F) (hP : WFP P) (hT : WFT T) (z b : Int) (hz : inR z) (hb : inR b) : CT G l mX7_born (d + 4) 0 0 [.ref (A 0), .int (zI (z)), .int (zI (b))] (HP G h A N Y (F, P, T, K, la, ma, ik)) (fun o h' => o = some (.int (zI (bornR K z b))) ∧ h' = HP G h A N Y (if bornD K z b then bornF F z.toNat b K else F, P, T, if bornD K z b then (0, K.2) else K, la, ma, ik)) := by
  refine CT.of (by decide) (Nat.le_of_ble_eq_true rfl) (List.forall_mem_cons.mpr ⟨rfl, List.forall_mem_cons.mpr ⟨rfl, List.forall_mem_cons.mpr ⟨rfl, fun _ h => absurd h List.not_mem_nil⟩⟩⟩) ?_
  refine EV.lvs (lv' := [some (.ref (A 0)), some (.int (zI (z))), some (.int (zI (b))), none]) rfl ?_
  have g0 : (HP G h A N Y (F, P, T, K, la, ma, ik)) (A 0) = some (obj 7 [.int (zI ((F.1 : Int))), .ref (A 1), .ref (A 2), .ref (A 3), .int (zI ((P.1 : Int))), .ref (A 4), .ref (A 5), .int (zI ((T.1 : Int))), .ref (A 6), .int (zI ((K.1 : Int))), .ref (A 7), .ref (A 8), .ref (A 9), .ref (A 10)]) := hGet hA _ _ 0 (by decide)
  have g1 : (HP G h A N Y (F, P, T, K, la, ma, ik)) (A 1) = some (arI G 48 F.2.2.2) := hGet hA _ _ 1 (by decide)
  have g2 : (HP G h A N Y (F, P, T, K, la, ma, ik)) (A 2) = some (arI G 6 F.2.2.1) := hGet hA _ _ 2 (by decide)
  have g3 : (HP G h A N Y (F, P, T, K, la, ma, ik)) (A 3) = some (arI G 6 F.2.1) := hGet hA _ _ 3 (by decide)
  have g7 : (HP G h A N Y (F, P, T, K, la, ma, ik)) (A 7) = some (arI G 60 K.2) := hGet hA _ _ 7 (by decide)
  have hK6 := hK.1
  have hP6 := hP.1
  have hT6 := hT.1
  have hth := hW.1
  have hsf : ∀ q, q < 6 → F.1.testBit q = true → F.1.testBit q = true := fun _ _ z => z
  have hM : ModAt G (HP G h A N Y (F, P, T, K, la, ma, ik)) (A 0) (fun i => A (i + 1)) F P T K la ma ik := hMod hA
  refine EV.iload_n (i := 1) dX7_born_0 rfl rfl ?_
  refine EV.iconst dX7_born_1 ?_
  refine EV.iconst dX7_born_2 ?_
  refine EV.callSr (M' := mX7_in) (as := [.int (zI (z)), .int (zI (0)), .int (zI (5))]) (rest := []) ml_X7_45 sm_X7_in co_X7_in dX7_born_3 (c_X7_in (d + 2) z 0 5 (by omega) (by omega) (by omega)) rfl rfl (Nat.le_of_ble_eq_true rfl) ?_
  refine EV.ifneB (t := 11) dX7_born_6 (by decide) (fun c6 => ?_) (fun c6 => ?_)
  · skip
    have c6r := of_rg c6
    refine EV.iload_n (i := 2) dX7_born_11 rfl rfl ?_
    refine EV.iconst dX7_born_12 ?_
    refine EV.bipush dX7_born_13 (by decide) ?_
    refine EV.callSr (M' := mX7_in) (as := [.int (zI (b)), .int (zI (0)), .int (zI (99))]) (rest := []) ml_X7_45 sm_X7_in co_X7_in dX7_born_15 (c_X7_in (d + 2) b 0 99 (by omega) (by omega) (by omega)) rfl rfl (Nat.le_of_ble_eq_true rfl) ?_
    refine EV.ifneB (t := 24) dX7_born_18 (by decide) (fun c18 => ?_) (fun c18 => ?_)
    · skip
      have c18r := of_rg c18
      refine EV.aload_n (i := 0) dX7_born_24 rfl rfl ?_
      refine EV.callVr (M' := mX7_orderFault) (as := []) (rest := []) ml_X7_60 im_X7_orderFault se_X7_orderFault rfl co_X7_orderFault dX7_born_25 g0 (c_X7_orderFault (d + 0) hM hW hK hP hT ) rfl rfl (Nat.le_of_ble_eq_true rfl) ?_
      have hofi := ofK_in K
      refine EV.iflt (t := 34) dX7_born_28 (by decide) (by omega) (fun c28 => ?_) (fun c28 => ?_)
      · skip
        have hKo : ofK K = -6 := by omega
        obtain ⟨hk8, hkl⟩ := ofK_ok hKo
        obtain ⟨p, rfl⟩ : ∃ p : Nat, z = (p : Int) := ⟨z.toNat, by omega⟩
        refine EV.iconst dX7_born_34 ?_
        refine EV.istore_n (i := 3) (lv' := [some (.ref (A 0)), some (.int (zI ((p : Int)))), some (.int (zI (b))), some (.int (zI (0)))]) dX7_born_35 rfl (by decide) rfl ?_
        have L36 : ∀ (n36 : Nat) (k : Nat) (x3 : Int) (hh : Hp), (k ≤ K.1) → K.1 - k < n36 → x3 = (k : Int) → hh = HP G h A N Y ((F.1, F.2.1, F.2.2.1, (soO F.2.2.2 p K k)), P, T, K, la, ma, ik) → EV G l mX7_born (d + 4) (fun o h' => o = some (.int (zI (bornR K (p : Int) b))) ∧ h' = HP G h A N Y (if bornD K (p : Int) b then bornF F (p : Int).toNat b K else F, P, T, if bornD K (p : Int) b then (0, K.2) else K, la, ma, ik)) 36 [some (.ref (A 0)), some (.int (zI ((p : Int)))), some (.int (zI (b))), some (.int (zI (x3)))] [] hh 0 0 := by
          intro n36
          induction n36 with
          | zero => intro _ _ _ _ hm; exact absurd hm (Nat.not_lt_zero _)
          | succ n36 ih36 =>
            intro k x3 hh hk hm36 e3 eh
            subst e3 eh
            have g0 : (HP G h A N Y ((F.1, F.2.1, F.2.2.1, (soO F.2.2.2 p K k)), P, T, K, la, ma, ik)) (A 0) = some (obj 7 [.int (zI ((F.1 : Int))), .ref (A 1), .ref (A 2), .ref (A 3), .int (zI ((P.1 : Int))), .ref (A 4), .ref (A 5), .int (zI ((T.1 : Int))), .ref (A 6), .int (zI ((K.1 : Int))), .ref (A 7), .ref (A 8), .ref (A 9), .ref (A 10)]) := hGet hA _ _ 0 (by decide)
            have g1 : (HP G h A N Y ((F.1, F.2.1, F.2.2.1, (soO F.2.2.2 p K k)), P, T, K, la, ma, ik)) (A 1) = some (arI G 48 (soO F.2.2.2 p K k)) := hGet hA _ _ 1 (by decide)
            have g2 : (HP G h A N Y ((F.1, F.2.1, F.2.2.1, (soO F.2.2.2 p K k)), P, T, K, la, ma, ik)) (A 2) = some (arI G 6 F.2.2.1) := hGet hA _ _ 2 (by decide)
            have g3 : (HP G h A N Y ((F.1, F.2.1, F.2.2.1, (soO F.2.2.2 p K k)), P, T, K, la, ma, ik)) (A 3) = some (arI G 6 F.2.1) := hGet hA _ _ 3 (by decide)
            have g7 : (HP G h A N Y ((F.1, F.2.1, F.2.2.1, (soO F.2.2.2 p K k)), P, T, K, la, ma, ik)) (A 7) = some (arI G 60 K.2) := hGet hA _ _ 7 (by decide)
            refine EV.iload_n (i := 3) dX7_born_36 rfl rfl ?_
            refine EV.aload_n (i := 0) dX7_born_37 rfl rfl ?_
            refine EV.getf fl_X7_53 dX7_born_38 g0 rfl ?_
            refine EV.icmp_ge (t := 70) dX7_born_41 (by decide) (by omega) (fun c41 => ?_) (fun c41 => ?_)
            · skip
              obtain rfl : k = K.1 := by omega
              refine EV.aload_n (i := 0) dX7_born_70 rfl rfl ?_
              refine EV.getf fl_X7_13 dX7_born_71 g0 rfl ?_
              refine EV.iload_n (i := 1) dX7_born_74 rfl rfl ?_
              refine EV.aload_n (i := 0) dX7_born_75 rfl rfl ?_
              refine EV.getf fl_X7_53 dX7_born_76 g0 rfl ?_
              refine EV.iast dX7_born_79 g2 (p) (rfl) (by omega) ?_
              refine EV.hps (h' := HP G h A N Y ((F.1, F.2.1, (uI F.2.2.1 p (K.1 : Int)), (soO F.2.2.2 p K K.1)), P, T, K, la, ma, ik)) (mFS hA _) ?_
              have g0 : (HP G h A N Y ((F.1, F.2.1, (uI F.2.2.1 p (K.1 : Int)), (soO F.2.2.2 p K K.1)), P, T, K, la, ma, ik)) (A 0) = some (obj 7 [.int (zI ((F.1 : Int))), .ref (A 1), .ref (A 2), .ref (A 3), .int (zI ((P.1 : Int))), .ref (A 4), .ref (A 5), .int (zI ((T.1 : Int))), .ref (A 6), .int (zI ((K.1 : Int))), .ref (A 7), .ref (A 8), .ref (A 9), .ref (A 10)]) := hGet hA _ _ 0 (by decide)
              have g1 : (HP G h A N Y ((F.1, F.2.1, (uI F.2.2.1 p (K.1 : Int)), (soO F.2.2.2 p K K.1)), P, T, K, la, ma, ik)) (A 1) = some (arI G 48 (soO F.2.2.2 p K K.1)) := hGet hA _ _ 1 (by decide)
              have g2 : (HP G h A N Y ((F.1, F.2.1, (uI F.2.2.1 p (K.1 : Int)), (soO F.2.2.2 p K K.1)), P, T, K, la, ma, ik)) (A 2) = some (arI G 6 (uI F.2.2.1 p (K.1 : Int))) := hGet hA _ _ 2 (by decide)
              have g3 : (HP G h A N Y ((F.1, F.2.1, (uI F.2.2.1 p (K.1 : Int)), (soO F.2.2.2 p K K.1)), P, T, K, la, ma, ik)) (A 3) = some (arI G 6 F.2.1) := hGet hA _ _ 3 (by decide)
              have g7 : (HP G h A N Y ((F.1, F.2.1, (uI F.2.2.1 p (K.1 : Int)), (soO F.2.2.2 p K K.1)), P, T, K, la, ma, ik)) (A 7) = some (arI G 60 K.2) := hGet hA _ _ 7 (by decide)
              refine EV.aload_n (i := 0) dX7_born_80 rfl rfl ?_
              refine EV.getf fl_X7_16 dX7_born_81 g0 rfl ?_
              refine EV.iload_n (i := 1) dX7_born_84 rfl rfl ?_
              refine EV.iload_n (i := 2) dX7_born_85 rfl rfl ?_
              refine EV.iast dX7_born_86 g3 (p) (rfl) (by omega) ?_
              refine EV.hps (h' := HP G h A N Y ((F.1, (uI F.2.1 p b), (uI F.2.2.1 p (K.1 : Int)), (soO F.2.2.2 p K K.1)), P, T, K, la, ma, ik)) (mFB hA _) ?_
              have g0 : (HP G h A N Y ((F.1, (uI F.2.1 p b), (uI F.2.2.1 p (K.1 : Int)), (soO F.2.2.2 p K K.1)), P, T, K, la, ma, ik)) (A 0) = some (obj 7 [.int (zI ((F.1 : Int))), .ref (A 1), .ref (A 2), .ref (A 3), .int (zI ((P.1 : Int))), .ref (A 4), .ref (A 5), .int (zI ((T.1 : Int))), .ref (A 6), .int (zI ((K.1 : Int))), .ref (A 7), .ref (A 8), .ref (A 9), .ref (A 10)]) := hGet hA _ _ 0 (by decide)
              have g1 : (HP G h A N Y ((F.1, (uI F.2.1 p b), (uI F.2.2.1 p (K.1 : Int)), (soO F.2.2.2 p K K.1)), P, T, K, la, ma, ik)) (A 1) = some (arI G 48 (soO F.2.2.2 p K K.1)) := hGet hA _ _ 1 (by decide)
              have g2 : (HP G h A N Y ((F.1, (uI F.2.1 p b), (uI F.2.2.1 p (K.1 : Int)), (soO F.2.2.2 p K K.1)), P, T, K, la, ma, ik)) (A 2) = some (arI G 6 (uI F.2.2.1 p (K.1 : Int))) := hGet hA _ _ 2 (by decide)
              have g3 : (HP G h A N Y ((F.1, (uI F.2.1 p b), (uI F.2.2.1 p (K.1 : Int)), (soO F.2.2.2 p K K.1)), P, T, K, la, ma, ik)) (A 3) = some (arI G 6 (uI F.2.1 p b)) := hGet hA _ _ 3 (by decide)
              have g7 : (HP G h A N Y ((F.1, (uI F.2.1 p b), (uI F.2.2.1 p (K.1 : Int)), (soO F.2.2.2 p K K.1)), P, T, K, la, ma, ik)) (A 7) = some (arI G 60 K.2) := hGet hA _ _ 7 (by decide)
              refine EV.aload_n (i := 0) dX7_born_87 rfl rfl ?_
              refine EV.dup dX7_born_88 rfl ?_
              refine EV.getf fl_X7_41 dX7_born_89 g0 rfl ?_
              refine EV.iconst dX7_born_92 ?_
              refine EV.iload_n (i := 1) dX7_born_93 rfl rfl ?_
              refine EV.ishlW dX7_born_94 ?_
              refine EV.iorW dX7_born_95 ?_
              refine EV.top (y := zI (((F.1 ||| 2 ^ p : Nat) : Int))) (zI_orj (by omega)) ?_
              refine EV.putf (fs' := [.int (zI (((F.1 ||| 2 ^ p : Nat) : Int))), .ref (A 1), .ref (A 2), .ref (A 3), .int (zI ((P.1 : Int))), .ref (A 4), .ref (A 5), .int (zI ((T.1 : Int))), .ref (A 6), .int (zI ((K.1 : Int))), .ref (A 7), .ref (A 8), .ref (A 9), .ref (A 10)]) fp_X7_41 dX7_born_96 g0 (Nat.le_of_ble_eq_true rfl) rfl rfl rfl ?_
              refine EV.hps (h' := HP G h A N Y (((F.1 ||| 2 ^ p), (uI F.2.1 p b), (uI F.2.2.1 p (K.1 : Int)), (soO F.2.2.2 p K K.1)), P, T, K, la, ma, ik)) (mX0 hA (F.1 ||| 2 ^ p) P.1 T.1 K.1) ?_
              have g0 : (HP G h A N Y (((F.1 ||| 2 ^ p), (uI F.2.1 p b), (uI F.2.2.1 p (K.1 : Int)), (soO F.2.2.2 p K K.1)), P, T, K, la, ma, ik)) (A 0) = some (obj 7 [.int (zI (((F.1 ||| 2 ^ p : Nat) : Int))), .ref (A 1), .ref (A 2), .ref (A 3), .int (zI ((P.1 : Int))), .ref (A 4), .ref (A 5), .int (zI ((T.1 : Int))), .ref (A 6), .int (zI ((K.1 : Int))), .ref (A 7), .ref (A 8), .ref (A 9), .ref (A 10)]) := hGet hA _ _ 0 (by decide)
              have g1 : (HP G h A N Y (((F.1 ||| 2 ^ p), (uI F.2.1 p b), (uI F.2.2.1 p (K.1 : Int)), (soO F.2.2.2 p K K.1)), P, T, K, la, ma, ik)) (A 1) = some (arI G 48 (soO F.2.2.2 p K K.1)) := hGet hA _ _ 1 (by decide)
              have g2 : (HP G h A N Y (((F.1 ||| 2 ^ p), (uI F.2.1 p b), (uI F.2.2.1 p (K.1 : Int)), (soO F.2.2.2 p K K.1)), P, T, K, la, ma, ik)) (A 2) = some (arI G 6 (uI F.2.2.1 p (K.1 : Int))) := hGet hA _ _ 2 (by decide)
              have g3 : (HP G h A N Y (((F.1 ||| 2 ^ p), (uI F.2.1 p b), (uI F.2.2.1 p (K.1 : Int)), (soO F.2.2.2 p K K.1)), P, T, K, la, ma, ik)) (A 3) = some (arI G 6 (uI F.2.1 p b)) := hGet hA _ _ 3 (by decide)
              have g7 : (HP G h A N Y (((F.1 ||| 2 ^ p), (uI F.2.1 p b), (uI F.2.2.1 p (K.1 : Int)), (soO F.2.2.2 p K K.1)), P, T, K, la, ma, ik)) (A 7) = some (arI G 60 K.2) := hGet hA _ _ 7 (by decide)
              refine EV.aload_n (i := 0) dX7_born_99 rfl rfl ?_
              refine EV.iconst dX7_born_100 ?_
              refine EV.putf (fs' := [.int (zI (((F.1 ||| 2 ^ p : Nat) : Int))), .ref (A 1), .ref (A 2), .ref (A 3), .int (zI ((P.1 : Int))), .ref (A 4), .ref (A 5), .int (zI ((T.1 : Int))), .ref (A 6), .int (zI (0)), .ref (A 7), .ref (A 8), .ref (A 9), .ref (A 10)]) fp_X7_53 dX7_born_101 g0 (Nat.le_of_ble_eq_true rfl) rfl rfl rfl ?_
              refine EV.hps (h' := HP G h A N Y (((F.1 ||| 2 ^ p), (uI F.2.1 p b), (uI F.2.2.1 p (K.1 : Int)), (soO F.2.2.2 p K K.1)), P, T, (0, K.2), la, ma, ik)) (mX0 hA (F.1 ||| 2 ^ p) P.1 T.1 0) ?_
              have g0 : (HP G h A N Y (((F.1 ||| 2 ^ p), (uI F.2.1 p b), (uI F.2.2.1 p (K.1 : Int)), (soO F.2.2.2 p K K.1)), P, T, (0, K.2), la, ma, ik)) (A 0) = some (obj 7 [.int (zI (((F.1 ||| 2 ^ p : Nat) : Int))), .ref (A 1), .ref (A 2), .ref (A 3), .int (zI ((P.1 : Int))), .ref (A 4), .ref (A 5), .int (zI ((T.1 : Int))), .ref (A 6), .int (zI ((0 : Int))), .ref (A 7), .ref (A 8), .ref (A 9), .ref (A 10)]) := hGet hA _ _ 0 (by decide)
              have g1 : (HP G h A N Y (((F.1 ||| 2 ^ p), (uI F.2.1 p b), (uI F.2.2.1 p (K.1 : Int)), (soO F.2.2.2 p K K.1)), P, T, (0, K.2), la, ma, ik)) (A 1) = some (arI G 48 (soO F.2.2.2 p K K.1)) := hGet hA _ _ 1 (by decide)
              have g2 : (HP G h A N Y (((F.1 ||| 2 ^ p), (uI F.2.1 p b), (uI F.2.2.1 p (K.1 : Int)), (soO F.2.2.2 p K K.1)), P, T, (0, K.2), la, ma, ik)) (A 2) = some (arI G 6 (uI F.2.2.1 p (K.1 : Int))) := hGet hA _ _ 2 (by decide)
              have g3 : (HP G h A N Y (((F.1 ||| 2 ^ p), (uI F.2.1 p b), (uI F.2.2.1 p (K.1 : Int)), (soO F.2.2.2 p K K.1)), P, T, (0, K.2), la, ma, ik)) (A 3) = some (arI G 6 (uI F.2.1 p b)) := hGet hA _ _ 3 (by decide)
              have g7 : (HP G h A N Y (((F.1 ||| 2 ^ p), (uI F.2.1 p b), (uI F.2.2.1 p (K.1 : Int)), (soO F.2.2.2 p K K.1)), P, T, (0, K.2), la, ma, ik)) (A 7) = some (arI G 60 K.2) := hGet hA _ _ 7 (by decide)
              refine EV.aload_n (i := 0) dX7_born_104 rfl rfl ?_
              refine EV.getf fl_X7_13 dX7_born_105 g0 rfl ?_
              refine EV.iload_n (i := 1) dX7_born_108 rfl rfl ?_
              refine EV.iald dX7_born_109 g2 (p) (rfl) (by omega) ?_
              refine EV.iret rfl dX7_born_110 ?_
              refine ⟨by rw [uI_s]; simp [bornR, c6, c18, hKo], ?_⟩
              have hd : bornD K (p : Int) b = true := by simp [bornD, c6, c18, hKo]
              rw [hd, Int.toNat_natCast]; rfl
            · skip
              refine EV.aload_n (i := 0) dX7_born_44 rfl rfl ?_
              refine EV.getf fl_X7_7 dX7_born_45 g0 rfl ?_
              refine EV.bipush dX7_born_48 (by decide) ?_
              refine EV.iload_n (i := 1) dX7_born_50 rfl rfl ?_
              refine EV.imul dX7_born_51 ?_
              refine EV.iload_n (i := 3) dX7_born_52 rfl rfl ?_
              refine EV.iadd dX7_born_53 ?_
              refine EV.aload_n (i := 0) dX7_born_54 rfl rfl ?_
              refine EV.getf fl_X7_28 dX7_born_55 g0 rfl ?_
              refine EV.iload_n (i := 3) dX7_born_58 rfl rfl ?_
              refine EV.iald dX7_born_59 g7 (k) (rfl) (by omega) ?_
              refine EV.bipush dX7_born_60 (by decide) ?_
              refine EV.isub dX7_born_62 ?_
              refine EV.iast dX7_born_63 g1 (8 * p + k) (by omega) (by omega) ?_
              refine EV.hps (h' := HP G h A N Y ((F.1, F.2.1, F.2.2.1, (uI (soO F.2.2.2 p K k) (8 * p + k) (K.2 k - 97))), P, T, K, la, ma, ik)) (mFO hA _) ?_
              have g0 : (HP G h A N Y ((F.1, F.2.1, F.2.2.1, (uI (soO F.2.2.2 p K k) (8 * p + k) (K.2 k - 97))), P, T, K, la, ma, ik)) (A 0) = some (obj 7 [.int (zI ((F.1 : Int))), .ref (A 1), .ref (A 2), .ref (A 3), .int (zI ((P.1 : Int))), .ref (A 4), .ref (A 5), .int (zI ((T.1 : Int))), .ref (A 6), .int (zI ((K.1 : Int))), .ref (A 7), .ref (A 8), .ref (A 9), .ref (A 10)]) := hGet hA _ _ 0 (by decide)
              have g1 : (HP G h A N Y ((F.1, F.2.1, F.2.2.1, (uI (soO F.2.2.2 p K k) (8 * p + k) (K.2 k - 97))), P, T, K, la, ma, ik)) (A 1) = some (arI G 48 (uI (soO F.2.2.2 p K k) (8 * p + k) (K.2 k - 97))) := hGet hA _ _ 1 (by decide)
              have g2 : (HP G h A N Y ((F.1, F.2.1, F.2.2.1, (uI (soO F.2.2.2 p K k) (8 * p + k) (K.2 k - 97))), P, T, K, la, ma, ik)) (A 2) = some (arI G 6 F.2.2.1) := hGet hA _ _ 2 (by decide)
              have g3 : (HP G h A N Y ((F.1, F.2.1, F.2.2.1, (uI (soO F.2.2.2 p K k) (8 * p + k) (K.2 k - 97))), P, T, K, la, ma, ik)) (A 3) = some (arI G 6 F.2.1) := hGet hA _ _ 3 (by decide)
              have g7 : (HP G h A N Y ((F.1, F.2.1, F.2.2.1, (uI (soO F.2.2.2 p K k) (8 * p + k) (K.2 k - 97))), P, T, K, la, ma, ik)) (A 7) = some (arI G 60 K.2) := hGet hA _ _ 7 (by decide)
              refine EV.iinc (i := 3) (lv' := [some (.ref (A 0)), some (.int (zI ((p : Int)))), some (.int (zI (b))), some (.int (zI ((k : Int) + 1)))]) dX7_born_64 rfl (by decide) rfl ?_
              refine EV.goto (t := 36) dX7_born_67 (by decide) ?_
              exact ih36 (k + 1) _ _ (by omega) (by omega) (rfl) (rfl)
        exact L36 _ 0 _ _ (by omega) (Nat.lt_succ_self _) (rfl) (rfl)
      · skip
        have hKn : ofK K ≠ -6 := by omega
        refine EV.bipush dX7_born_31 (by decide) ?_
        refine EV.iret rfl dX7_born_33 ?_
        exact ⟨by simp [bornR, c6, c18, hKn], by simp [bornD, c6, c18, hKn]⟩
    · skip
      have c18r := of_nrg c18
      refine EV.bipush dX7_born_21 (by decide) ?_
      refine EV.iret rfl dX7_born_23 ?_
      exact ⟨by simp [bornR, c6, c18], by simp [bornD, c6, c18]⟩
  · skip
    have c6r := of_nrg c6
    refine EV.iconst dX7_born_9 ?_
    refine EV.iret rfl dX7_born_10 ?_
    exact ⟨by simp [bornR, c6], by simp [bornD, c6]⟩
set_option maxHeartbeats 4000000 in
set_option maxRecDepth 20000 in
theorem c_X7_plan (d : Nat) (hA : inA A N) (hK : WFK K) (hW : WF F) (hP : WFP P) (hT : WFT T)  : CT G l mX7_plan (d + 4) 0 0 [.ref (A 0)] (HP G h A N Y (F, P, T, K, la, ma, ik)) (fun o h' => o = some (.int (zI (planR K P))) ∧ h' = HP G h A N Y (F, planP K P, T, planK K, la, ma, ik)) := by
  refine CT.of (by decide) (Nat.le_of_ble_eq_true rfl) (List.forall_mem_cons.mpr ⟨rfl, fun _ h => absurd h List.not_mem_nil⟩) ?_
  refine EV.lvs (lv' := [some (.ref (A 0)), none, none]) rfl ?_
  have g0 : (HP G h A N Y (F, P, T, K, la, ma, ik)) (A 0) = some (obj 7 [.int (zI ((F.1 : Int))), .ref (A 1), .ref (A 2), .ref (A 3), .int (zI ((P.1 : Int))), .ref (A 4), .ref (A 5), .int (zI ((T.1 : Int))), .ref (A 6), .int (zI ((K.1 : Int))), .ref (A 7), .ref (A 8), .ref (A 9), .ref (A 10)]) := hGet hA _ _ 0 (by decide)
  have g4 : (HP G h A N Y (F, P, T, K, la, ma, ik)) (A 4) = some (arI G 6 P.2.1) := hGet hA _ _ 4 (by decide)
  have g5 : (HP G h A N Y (F, P, T, K, la, ma, ik)) (A 5) = some (arI G 6 (nf P.2.2)) := hGet hA _ _ 5 (by decide)
  have g7 : (HP G h A N Y (F, P, T, K, la, ma, ik)) (A 7) = some (arI G 60 K.2) := hGet hA _ _ 7 (by decide)
  have hK6 := hK.1
  have hP6 := hP.1
  have hT6 := hT.1
  have hth := hW.1
  have hsf : ∀ q, q < 6 → F.1.testBit q = true → F.1.testBit q = true := fun _ _ z => z
  have hM : ModAt G (HP G h A N Y (F, P, T, K, la, ma, ik)) (A 0) (fun i => A (i + 1)) F P T K la ma ik := hMod hA
  refine EV.aload_n (i := 0) dX7_plan_0 rfl rfl ?_
  refine EV.callVr (M' := mX7_planFault) (as := []) (rest := []) ml_X7_64 im_X7_planFault se_X7_planFault rfl co_X7_planFault dX7_plan_1 g0 (c_X7_planFault (d + 0) hM hW hK hP hT ) rfl rfl (Nat.le_of_ble_eq_true rfl) ?_
  have hpfi := pfK_in K
  refine EV.iflt (t := 10) dX7_plan_4 (by decide) (by omega) (fun c4 => ?_) (fun c4 => ?_)
  · skip
    have hpf : pfK K = -6 := by omega
    refine EV.aload_n (i := 0) dX7_plan_10 rfl rfl ?_
    refine EV.iconst dX7_plan_11 ?_
    refine EV.putf (fs' := [.int (zI ((F.1 : Int))), .ref (A 1), .ref (A 2), .ref (A 3), .int (zI (0)), .ref (A 4), .ref (A 5), .int (zI ((T.1 : Int))), .ref (A 6), .int (zI ((K.1 : Int))), .ref (A 7), .ref (A 8), .ref (A 9), .ref (A 10)]) fp_X7_74 dX7_plan_12 g0 (Nat.le_of_ble_eq_true rfl) rfl rfl rfl ?_
    refine EV.hps (h' := HP G h A N Y (F, (0, P.2), T, K, la, ma, ik)) (mX0 hA F.1 0 T.1 K.1) ?_
    refine EV.iconst dX7_plan_15 ?_
    refine EV.istore_n (i := 1) (lv' := [some (.ref (A 0)), some (.int (zI (0))), none]) dX7_plan_16 rfl (by decide) rfl ?_
    have L17 : ∀ (n17 : Nat) (k : Nat) (w : Nat) (s : Int) (c : Nat) (x1 : Int) (hh : Hp), (k ≤ K.1) → (RI K P k w s) → (pfr K (K.1 - k) k w s = -6) → ((s = -2 ∧ c = (rdS K P k).1) ∨ (s ≠ -2 ∧ c + 1 = (rdS K P k).1)) → K.1 - k < n17 → x1 = (k : Int) → hh = HP G h A N Y (F, (c, (rdS K P k).2), T, K, la, ma, ik) → EV G l mX7_plan (d + 4) (fun o h' => o = some (.int (zI (planR K P))) ∧ h' = HP G h A N Y (F, planP K P, T, planK K, la, ma, ik)) 17 [some (.ref (A 0)), some (.int (zI (x1))), none] [] hh 0 0 := by
      intro n17
      induction n17 with
      | zero => intro _ _ _ _ _ _ _ _ _ _ hm; exact absurd hm (Nat.not_lt_zero _)
      | succ n17 ih17 =>
        intro k w s c x1 hh hk hR hx hc hm17 e1 eh
        subst e1 eh
        refine EV.hps (h' := HP G h A N Y (F, (c, (rdS K P k).2.1, (rdS K P k).2.2), T, K, la, ma, ik)) rfl ?_
        have g0 : (HP G h A N Y (F, (c, (rdS K P k).2.1, (rdS K P k).2.2), T, K, la, ma, ik)) (A 0) = some (obj 7 [.int (zI ((F.1 : Int))), .ref (A 1), .ref (A 2), .ref (A 3), .int (zI ((c : Int))), .ref (A 4), .ref (A 5), .int (zI ((T.1 : Int))), .ref (A 6), .int (zI ((K.1 : Int))), .ref (A 7), .ref (A 8), .ref (A 9), .ref (A 10)]) := hGet hA _ _ 0 (by decide)
        have g4 : (HP G h A N Y (F, (c, (rdS K P k).2.1, (rdS K P k).2.2), T, K, la, ma, ik)) (A 4) = some (arI G 6 ((rdS K P k).2.1)) := hGet hA _ _ 4 (by decide)
        have g5 : (HP G h A N Y (F, (c, (rdS K P k).2.1, (rdS K P k).2.2), T, K, la, ma, ik)) (A 5) = some (arI G 6 (nf ((rdS K P k).2.2))) := hGet hA _ _ 5 (by decide)
        have g7 : (HP G h A N Y (F, (c, (rdS K P k).2.1, (rdS K P k).2.2), T, K, la, ma, ik)) (A 7) = some (arI G 60 K.2) := hGet hA _ _ 7 (by decide)
        have hRw := hR.1
        have hR6 := hR.2.1
        refine EV.iload_n (i := 1) dX7_plan_17 rfl rfl ?_
        refine EV.aload_n (i := 0) dX7_plan_18 rfl rfl ?_
        refine EV.getf fl_X7_53 dX7_plan_19 g0 rfl ?_
        refine EV.icmp_ge (t := 112) dX7_plan_22 (by decide) (by omega) (fun c22 => ?_) (fun c22 => ?_)
        · skip
          obtain rfl : k = K.1 := by omega
          have hse : s = -2 := by have := pfr_e hx.symm; split at this <;> omega
          have hce : c = (rdS K P K.1).1 := by omega
          refine EV.aload_n (i := 0) dX7_plan_112 rfl rfl ?_
          refine EV.iconst dX7_plan_113 ?_
          refine EV.putf (fs' := [.int (zI ((F.1 : Int))), .ref (A 1), .ref (A 2), .ref (A 3), .int (zI ((c : Int))), .ref (A 4), .ref (A 5), .int (zI ((T.1 : Int))), .ref (A 6), .int (zI (0)), .ref (A 7), .ref (A 8), .ref (A 9), .ref (A 10)]) fp_X7_53 dX7_plan_114 g0 (Nat.le_of_ble_eq_true rfl) rfl rfl rfl ?_
          refine EV.hps (h' := HP G h A N Y (F, (c, (rdS K P K.1).2.1, (rdS K P K.1).2.2), T, (0, K.2), la, ma, ik)) (mX0 hA F.1 c T.1 0) ?_
          have g0 : (HP G h A N Y (F, (c, (rdS K P K.1).2.1, (rdS K P K.1).2.2), T, (0, K.2), la, ma, ik)) (A 0) = some (obj 7 [.int (zI ((F.1 : Int))), .ref (A 1), .ref (A 2), .ref (A 3), .int (zI ((c : Int))), .ref (A 4), .ref (A 5), .int (zI ((T.1 : Int))), .ref (A 6), .int (zI ((0 : Int))), .ref (A 7), .ref (A 8), .ref (A 9), .ref (A 10)]) := hGet hA _ _ 0 (by decide)
          have g4 : (HP G h A N Y (F, (c, (rdS K P K.1).2.1, (rdS K P K.1).2.2), T, (0, K.2), la, ma, ik)) (A 4) = some (arI G 6 ((rdS K P K.1).2.1)) := hGet hA _ _ 4 (by decide)
          have g5 : (HP G h A N Y (F, (c, (rdS K P K.1).2.1, (rdS K P K.1).2.2), T, (0, K.2), la, ma, ik)) (A 5) = some (arI G 6 (nf ((rdS K P K.1).2.2))) := hGet hA _ _ 5 (by decide)
          have g7 : (HP G h A N Y (F, (c, (rdS K P K.1).2.1, (rdS K P K.1).2.2), T, (0, K.2), la, ma, ik)) (A 7) = some (arI G 60 K.2) := hGet hA _ _ 7 (by decide)
          refine EV.aload_n (i := 0) dX7_plan_117 rfl rfl ?_
          refine EV.getf fl_X7_74 dX7_plan_118 g0 rfl ?_
          refine EV.iret rfl dX7_plan_121 ?_
          subst hce
          exact ⟨by rw [planR, if_pos hpf], by rw [planP, planK, if_pos hpf, if_pos hpf]⟩
        · skip
          obtain ⟨w2, s2, hp2, hx2⟩ := pf_step hx (by omega)
          have hsg := hK.2 k (by omega)
          refine EV.aload_n (i := 0) dX7_plan_25 rfl rfl ?_
          refine EV.getf fl_X7_28 dX7_plan_26 g0 rfl ?_
          refine EV.iload_n (i := 1) dX7_plan_29 rfl rfl ?_
          refine EV.iald dX7_plan_30 g7 (k) (rfl) (by omega) ?_
          refine EV.istore_n (i := 2) (lv' := [some (.ref (A 0)), some (.int (zI ((k : Int)))), some (.int (zI (K.2 k)))]) dX7_plan_31 rfl (by decide) rfl ?_
          refine EV.iload_n (i := 2) dX7_plan_32 rfl rfl ?_
          refine EV.bipush dX7_plan_33 (by decide) ?_
          refine EV.bipush dX7_plan_35 (by decide) ?_
          refine EV.callSr (M' := mX7_in) (as := [.int (zI (K.2 k)), .int (zI (97)), .int (zI (104))]) (rest := []) ml_X7_45 sm_X7_in co_X7_in dX7_plan_37 (c_X7_in (d + 2) (K.2 k) 97 104 (by omega) (by omega) (by omega)) rfl rfl (Nat.le_of_ble_eq_true rfl) ?_
          refine EV.ifeqB (t := 69) dX7_plan_40 (by decide) (fun c40 => ?_) (fun c40 => ?_)
          · skip
            have c40r := of_nrg c40
            have hnl : ¬ (97 ≤ K.2 k ∧ K.2 k ≤ 104) := by omega
            refine EV.iload_n (i := 2) dX7_plan_69 rfl rfl ?_
            refine EV.bipush dX7_plan_70 (by decide) ?_
            refine EV.icmp_ne (t := 88) dX7_plan_72 (by decide) (by omega) (fun c72 => ?_) (fun c72 => ?_)
            · skip
              have hdr : 48 ≤ K.2 k ∧ K.2 k ≤ 53 := by by_cases hz : 48 ≤ K.2 k ∧ K.2 k ≤ 53; exact hz; exact absurd (pfn_end hp2 hR.2.2.1 hnl hz).1 c72
              have hdg := pfn_dig hp2 hR.2.2.1 hdr
              have hsn : s ≠ -2 := fun z => by have h5 : pfn K k w (-2) = none := (pfn_2 (by omega)); rw [z, h5] at hp2; exact absurd hp2 (by simp)
              obtain ⟨dg, hdge⟩ : ∃ dg : Nat, K.2 k - 48 = (dg : Int) := ⟨(K.2 k - 48).toNat, by omega⟩
              have hc6 : c < 6 := by omega
              refine EV.aload_n (i := 0) dX7_plan_88 rfl rfl ?_
              refine EV.getf fl_X7_22 dX7_plan_89 g0 rfl ?_
              refine EV.aload_n (i := 0) dX7_plan_92 rfl rfl ?_
              refine EV.getf fl_X7_74 dX7_plan_93 g0 rfl ?_
              refine EV.dup2 dX7_plan_96 rfl rfl ?_
              refine EV.iald dX7_plan_97 g5 (c) (rfl) (by omega) ?_
              refine EV.top (y := zI (((rdS K P k).2.2 c : Int))) (rfl) ?_
              refine EV.iconst dX7_plan_98 ?_
              refine EV.iload_n (i := 2) dX7_plan_99 rfl rfl ?_
              refine EV.bipush dX7_plan_100 (by decide) ?_
              refine EV.isub dX7_plan_102 ?_
              refine EV.top (y := zI ((dg : Int))) (by rw [hdge]) ?_
              refine EV.ishlW dX7_plan_103 ?_
              refine EV.iorW dX7_plan_104 ?_
              refine EV.top (y := zI ((((rdS K P k).2.2 c ||| 2 ^ dg : Nat) : Int))) (zI_orj (by omega)) ?_
              refine EV.iast dX7_plan_105 g5 (c) (rfl) (by omega) ?_
              refine EV.hps (h' := HP G h A N Y (F, (c, (rdS K P k).2.1, (uN (rdS K P k).2.2 c ((rdS K P k).2.2 c ||| 2 ^ dg))), T, K, la, ma, ik)) (by rw [nf_u]; exact mPw hA _) ?_
              have g0 : (HP G h A N Y (F, (c, (rdS K P k).2.1, (uN (rdS K P k).2.2 c ((rdS K P k).2.2 c ||| 2 ^ dg))), T, K, la, ma, ik)) (A 0) = some (obj 7 [.int (zI ((F.1 : Int))), .ref (A 1), .ref (A 2), .ref (A 3), .int (zI ((c : Int))), .ref (A 4), .ref (A 5), .int (zI ((T.1 : Int))), .ref (A 6), .int (zI ((K.1 : Int))), .ref (A 7), .ref (A 8), .ref (A 9), .ref (A 10)]) := hGet hA _ _ 0 (by decide)
              have g4 : (HP G h A N Y (F, (c, (rdS K P k).2.1, (uN (rdS K P k).2.2 c ((rdS K P k).2.2 c ||| 2 ^ dg))), T, K, la, ma, ik)) (A 4) = some (arI G 6 ((rdS K P k).2.1)) := hGet hA _ _ 4 (by decide)
              have g5 : (HP G h A N Y (F, (c, (rdS K P k).2.1, (uN (rdS K P k).2.2 c ((rdS K P k).2.2 c ||| 2 ^ dg))), T, K, la, ma, ik)) (A 5) = some (arI G 6 (nf (uN (rdS K P k).2.2 c ((rdS K P k).2.2 c ||| 2 ^ dg)))) := hGet hA _ _ 5 (by decide)
              have g7 : (HP G h A N Y (F, (c, (rdS K P k).2.1, (uN (rdS K P k).2.2 c ((rdS K P k).2.2 c ||| 2 ^ dg))), T, K, la, ma, ik)) (A 7) = some (arI G 60 K.2) := hGet hA _ _ 7 (by decide)
              refine EV.iinc (i := 1) (lv' := [some (.ref (A 0)), some (.int (zI ((k : Int) + 1))), some (.int (zI (K.2 k)))]) dX7_plan_106 rfl (by decide) rfl ?_
              refine EV.goto (t := 17) dX7_plan_109 (by decide) ?_
              refine EV.drop 2 (lv' := [some (.ref (A 0)), some (.int (zI (((k : Int) + 1)))), none]) rfl ?_
              exact ih17 (k + 1) w2 s2 c _ _ (by omega) (RI_s hR hp2) (hx2) (Or.inr ⟨by omega, by rw [rdS_b hdr]; omega⟩) (by omega) (rfl) (by rw [rdS_b hdr, hdge, Int.toNat_natCast, show (rdS K P k).1 - 1 = c by omega])
            · skip
              have hen := pfn_end hp2 hR.2.2.1 hnl (by omega)
              have hc6 : c < 6 := by omega
              refine EV.aload_n (i := 0) dX7_plan_75 rfl rfl ?_
              refine EV.dup dX7_plan_76 rfl ?_
              refine EV.getf fl_X7_74 dX7_plan_77 g0 rfl ?_
              refine EV.iconst dX7_plan_80 ?_
              refine EV.iadd dX7_plan_81 ?_
              refine EV.putf (fs' := [.int (zI ((F.1 : Int))), .ref (A 1), .ref (A 2), .ref (A 3), .int (zI (((c : Int) + 1))), .ref (A 4), .ref (A 5), .int (zI ((T.1 : Int))), .ref (A 6), .int (zI ((K.1 : Int))), .ref (A 7), .ref (A 8), .ref (A 9), .ref (A 10)]) fp_X7_74 dX7_plan_82 g0 (Nat.le_of_ble_eq_true rfl) rfl rfl rfl ?_
              refine EV.hps (h' := HP G h A N Y (F, ((c + 1), (rdS K P k).2.1, (rdS K P k).2.2), T, K, la, ma, ik)) (mX0 hA F.1 (c + 1) T.1 K.1) ?_
              have g0 : (HP G h A N Y (F, ((c + 1), (rdS K P k).2.1, (rdS K P k).2.2), T, K, la, ma, ik)) (A 0) = some (obj 7 [.int (zI ((F.1 : Int))), .ref (A 1), .ref (A 2), .ref (A 3), .int (zI (((c + 1 : Nat) : Int))), .ref (A 4), .ref (A 5), .int (zI ((T.1 : Int))), .ref (A 6), .int (zI ((K.1 : Int))), .ref (A 7), .ref (A 8), .ref (A 9), .ref (A 10)]) := hGet hA _ _ 0 (by decide)
              have g4 : (HP G h A N Y (F, ((c + 1), (rdS K P k).2.1, (rdS K P k).2.2), T, K, la, ma, ik)) (A 4) = some (arI G 6 ((rdS K P k).2.1)) := hGet hA _ _ 4 (by decide)
              have g5 : (HP G h A N Y (F, ((c + 1), (rdS K P k).2.1, (rdS K P k).2.2), T, K, la, ma, ik)) (A 5) = some (arI G 6 (nf ((rdS K P k).2.2))) := hGet hA _ _ 5 (by decide)
              have g7 : (HP G h A N Y (F, ((c + 1), (rdS K P k).2.1, (rdS K P k).2.2), T, K, la, ma, ik)) (A 7) = some (arI G 60 K.2) := hGet hA _ _ 7 (by decide)
              refine EV.goto (t := 106) dX7_plan_85 (by decide) ?_
              refine EV.iinc (i := 1) (lv' := [some (.ref (A 0)), some (.int (zI ((k : Int) + 1))), some (.int (zI (K.2 k)))]) dX7_plan_106 rfl (by decide) rfl ?_
              refine EV.goto (t := 17) dX7_plan_109 (by decide) ?_
              refine EV.drop 2 (lv' := [some (.ref (A 0)), some (.int (zI (((k : Int) + 1)))), none]) rfl ?_
              exact ih17 (k + 1) w2 s2 (c + 1) _ _ (by omega) (RI_s hR hp2) (hx2) (Or.inl ⟨by omega, by rw [rdS_c hnl (by omega)]; omega⟩) (by omega) (rfl) (by rw [rdS_c hnl (by omega)])
          · skip
            have c40r := of_rg c40
            have hlt := pfn_let hp2 hR.2.2.1 (by omega)
            have hc6 : c < 6 := by omega
            refine EV.aload_n (i := 0) dX7_plan_43 rfl rfl ?_
            refine EV.getf fl_X7_19 dX7_plan_44 g0 rfl ?_
            refine EV.aload_n (i := 0) dX7_plan_47 rfl rfl ?_
            refine EV.getf fl_X7_74 dX7_plan_48 g0 rfl ?_
            refine EV.iload_n (i := 2) dX7_plan_51 rfl rfl ?_
            refine EV.bipush dX7_plan_52 (by decide) ?_
            refine EV.isub dX7_plan_54 ?_
            refine EV.iast dX7_plan_55 g4 (c) (rfl) (by omega) ?_
            refine EV.hps (h' := HP G h A N Y (F, (c, (uI (rdS K P k).2.1 c (K.2 k - 97)), (rdS K P k).2.2), T, K, la, ma, ik)) (mPd hA _) ?_
            have g0 : (HP G h A N Y (F, (c, (uI (rdS K P k).2.1 c (K.2 k - 97)), (rdS K P k).2.2), T, K, la, ma, ik)) (A 0) = some (obj 7 [.int (zI ((F.1 : Int))), .ref (A 1), .ref (A 2), .ref (A 3), .int (zI ((c : Int))), .ref (A 4), .ref (A 5), .int (zI ((T.1 : Int))), .ref (A 6), .int (zI ((K.1 : Int))), .ref (A 7), .ref (A 8), .ref (A 9), .ref (A 10)]) := hGet hA _ _ 0 (by decide)
            have g4 : (HP G h A N Y (F, (c, (uI (rdS K P k).2.1 c (K.2 k - 97)), (rdS K P k).2.2), T, K, la, ma, ik)) (A 4) = some (arI G 6 (uI (rdS K P k).2.1 c (K.2 k - 97))) := hGet hA _ _ 4 (by decide)
            have g5 : (HP G h A N Y (F, (c, (uI (rdS K P k).2.1 c (K.2 k - 97)), (rdS K P k).2.2), T, K, la, ma, ik)) (A 5) = some (arI G 6 (nf ((rdS K P k).2.2))) := hGet hA _ _ 5 (by decide)
            have g7 : (HP G h A N Y (F, (c, (uI (rdS K P k).2.1 c (K.2 k - 97)), (rdS K P k).2.2), T, K, la, ma, ik)) (A 7) = some (arI G 60 K.2) := hGet hA _ _ 7 (by decide)
            refine EV.aload_n (i := 0) dX7_plan_56 rfl rfl ?_
            refine EV.getf fl_X7_22 dX7_plan_57 g0 rfl ?_
            refine EV.aload_n (i := 0) dX7_plan_60 rfl rfl ?_
            refine EV.getf fl_X7_74 dX7_plan_61 g0 rfl ?_
            refine EV.iconst dX7_plan_64 ?_
            refine EV.iast dX7_plan_65 g5 (c) (rfl) (by omega) ?_
            refine EV.hps (h' := HP G h A N Y (F, (c, (uI (rdS K P k).2.1 c (K.2 k - 97)), (uN (rdS K P k).2.2 c 0)), T, K, la, ma, ik)) (by rw [nf_u0]; exact mPw hA _) ?_
            have g0 : (HP G h A N Y (F, (c, (uI (rdS K P k).2.1 c (K.2 k - 97)), (uN (rdS K P k).2.2 c 0)), T, K, la, ma, ik)) (A 0) = some (obj 7 [.int (zI ((F.1 : Int))), .ref (A 1), .ref (A 2), .ref (A 3), .int (zI ((c : Int))), .ref (A 4), .ref (A 5), .int (zI ((T.1 : Int))), .ref (A 6), .int (zI ((K.1 : Int))), .ref (A 7), .ref (A 8), .ref (A 9), .ref (A 10)]) := hGet hA _ _ 0 (by decide)
            have g4 : (HP G h A N Y (F, (c, (uI (rdS K P k).2.1 c (K.2 k - 97)), (uN (rdS K P k).2.2 c 0)), T, K, la, ma, ik)) (A 4) = some (arI G 6 (uI (rdS K P k).2.1 c (K.2 k - 97))) := hGet hA _ _ 4 (by decide)
            have g5 : (HP G h A N Y (F, (c, (uI (rdS K P k).2.1 c (K.2 k - 97)), (uN (rdS K P k).2.2 c 0)), T, K, la, ma, ik)) (A 5) = some (arI G 6 (nf (uN (rdS K P k).2.2 c 0))) := hGet hA _ _ 5 (by decide)
            have g7 : (HP G h A N Y (F, (c, (uI (rdS K P k).2.1 c (K.2 k - 97)), (uN (rdS K P k).2.2 c 0)), T, K, la, ma, ik)) (A 7) = some (arI G 60 K.2) := hGet hA _ _ 7 (by decide)
            refine EV.goto (t := 106) dX7_plan_66 (by decide) ?_
            refine EV.iinc (i := 1) (lv' := [some (.ref (A 0)), some (.int (zI ((k : Int) + 1))), some (.int (zI (K.2 k)))]) dX7_plan_106 rfl (by decide) rfl ?_
            refine EV.goto (t := 17) dX7_plan_109 (by decide) ?_
            refine EV.drop 2 (lv' := [some (.ref (A 0)), some (.int (zI (((k : Int) + 1)))), none]) rfl ?_
            exact ih17 (k + 1) w2 s2 c _ _ (by omega) (RI_s hR hp2) (hx2) (Or.inr ⟨by omega, by rw [rdS_a (by omega)]; show c + 1 = (rdS K P k).1 + 1; omega⟩) (by omega) (rfl) (by rw [rdS_a (by omega), show (rdS K P k).1 = c by omega])
    exact L17 _ 0 0 (-2) 0 _ _ (by omega) (RI_0 K P) (hpf) (Or.inl ⟨rfl, rfl⟩) (Nat.lt_succ_self _) (rfl) (rfl)
  · skip
    have hpn : pfK K ≠ -6 := by omega
    refine EV.bipush dX7_plan_7 (by decide) ?_
    refine EV.iret rfl dX7_plan_9 ?_
    exact ⟨by rw [planR, if_neg hpn], by rw [planP, planK, if_neg hpn, if_neg hpn]⟩
end
