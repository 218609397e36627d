theorem rs1 {g f : Nat → Int} {k : Nat} {v : Int} (h : ∀ j, j < k → g j = f j) (hv : v = f k) : ∀ j, j < k + 1 → uI g k v j = f j := fun j hj => by
  by_cases e : j = k
  · subst e; rw [uI_s]; exact hv
  · rw [uI_n _ _ e]; exact h j (by omega)
theorem rs1n {g f : Nat → Nat} {k : Nat} {v : Nat} (h : ∀ j, j < k → g j = f j) (hv : v = f k) : ∀ j, j < k + 1 → uN g k v j = f j := fun j hj => by
  by_cases e : j = k
  · subst e; rw [uN_s]; exact hv
  · rw [uN_n _ _ e]; exact h j (by omega)
def sg1 (t : Nat → Int) (k : Nat) (v : Int) : Nat → Int := if k % 2 = 0 then uI t (k / 2) v else t
def sg2 (t : Nat → Int) (k : Nat) (v : Int) : Nat → Int := if k % 2 = 0 then t else uI t (k / 2) v
theorem sg_w (w : Nat) (t1 t2 : Nat → Int) (k : Nat) (v : Int) : uI (sgOf (w, t1, t2)) k v = sgOf (w, sg1 t1 k v, sg2 t2 k v) := by
  by_cases h : k % 2 = 0
  · obtain ⟨i, rfl⟩ : ∃ i, k = 2 * i := ⟨k / 2, by omega⟩
    rw [sg_u1]
    unfold sg1 sg2
    rw [if_pos h, if_pos h, show 2 * i / 2 = i by omega]
  · obtain ⟨i, rfl⟩ : ∃ i, k = 2 * i + 1 := ⟨k / 2, by omega⟩
    rw [sg_u2]
    unfold sg1 sg2
    rw [if_neg h, if_neg h, show (2 * i + 1) / 2 = i by omega]
theorem kq_01 {M ik : Nat → Int} {kq : Nat → Option (FK × PL × ST)} {n : Nat} (hk : kqAt M ik kq) (hn : n < 2) : (ik n = 0 ∧ kq n = none) ∨ (ik n = 1 ∧ ∃ q, kq n = some q ∧ encAt M (100 * n) q) := by
  cases hq : kq n with
  | none => exact Or.inl ⟨(hk n hn).1 hq, rfl⟩
  | some q => exact Or.inr ⟨((hk n hn).2 q hq).1, q, rfl, ((hk n hn).2 q hq).2⟩
section
variable {G : GG} {l : Launch}
variable {h : Hp} {A : Nat → Nat} {N : Nat} {F : FK} {P : PL} {T : ST} {K : PD} {la ma ik : Nat → Int} {Y : CY}
set_option maxHeartbeats 4000000 in
set_option maxRecDepth 20000 in
theorem c_X7_restore (d : Nat) (hA : inA A N) (hK : WFK K) (hW : WF F) (hP : WFP P) (hT : WFT T) {kq : Nat → Option (FK × PL × ST)} (hkq : kqAt ma ik kq) (z : Int) (hz : inR z) : CT G l mX7_restore (d + 2) 0 0 [.ref (A 0), .int (zI (z))] (HP G h A N Y (F, P, T, K, la, ma, ik)) (fun o h' => o = some (.int (zI (restR kq z))) ∧ h' = HP G h A N Y ((restL kq (F, P, T) z).1, (restL kq (F, P, T) z).2.1, (restL kq (F, P, T) z).2.2, K, la, ma, ik)) := by
  refine CT.of (by decide) (Nat.le_of_ble_eq_true rfl) (List.forall_mem_cons.mpr ⟨rfl, List.forall_mem_cons.mpr ⟨rfl, fun _ h => absurd h List.not_mem_nil⟩⟩) ?_
  refine EV.lvs (lv' := [some (.ref (A 0)), some (.int (zI (z))), none, none]) rfl ?_
  have g0 : (HP G h A N Y (F, P, T, K, la, ma, ik)) (A 0) = some (obj 7 [.int (zI ((F.1 : Int))), .ref (A 1), .ref (A 2), .ref (A 3), .int (zI ((P.1 : Int))), .ref (A 4), .ref (A 5), .int (zI ((T.1 : Int))), .ref (A 6), .int (zI ((K.1 : Int))), .ref (A 7), .ref (A 8), .ref (A 9), .ref (A 10)]) := hGet hA _ _ 0 (by decide)
  have g1 : (HP G h A N Y (F, P, T, K, la, ma, ik)) (A 1) = some (arI G 48 F.2.2.2) := hGet hA _ _ 1 (by decide)
  have g2 : (HP G h A N Y (F, P, T, K, la, ma, ik)) (A 2) = some (arI G 6 F.2.2.1) := hGet hA _ _ 2 (by decide)
  have g3 : (HP G h A N Y (F, P, T, K, la, ma, ik)) (A 3) = some (arI G 6 F.2.1) := hGet hA _ _ 3 (by decide)
  have g4 : (HP G h A N Y (F, P, T, K, la, ma, ik)) (A 4) = some (arI G 6 P.2.1) := hGet hA _ _ 4 (by decide)
  have g5 : (HP G h A N Y (F, P, T, K, la, ma, ik)) (A 5) = some (arI G 6 (nf P.2.2)) := hGet hA _ _ 5 (by decide)
  have g6 : (HP G h A N Y (F, P, T, K, la, ma, ik)) (A 6) = some (arI G 12 (sgOf T)) := hGet hA _ _ 6 (by decide)
  have g9 : (HP G h A N Y (F, P, T, K, la, ma, ik)) (A 9) = some (arI G 200 ma) := hGet hA _ _ 9 (by decide)
  have g10 : (HP G h A N Y (F, P, T, K, la, ma, ik)) (A 10) = some (arZ G 2 ik) := hGet hA _ _ 10 (by decide)
  have hK6 := hK.1
  have hP6 := hP.1
  have hT6 := hT.1
  have hth := hW.1
  have hsf : ∀ q, q < 6 → F.1.testBit q = true → F.1.testBit q = true := fun _ _ z => z
  have hM : ModAt G (HP G h A N Y (F, P, T, K, la, ma, ik)) (A 0) (fun i => A (i + 1)) F P T K la ma ik := hMod hA
  refine EV.iload_n (i := 1) dX7_restore_0 rfl rfl ?_
  refine EV.iconst dX7_restore_1 ?_
  refine EV.iconst dX7_restore_2 ?_
  refine EV.callSr (M' := mX7_in) (as := [.int (zI (z)), .int (zI (0)), .int (zI (1))]) (rest := []) ml_X7_45 sm_X7_in co_X7_in dX7_restore_3 (c_X7_in (d + 0) z 0 1 (by omega) (by omega) (by omega)) rfl rfl (Nat.le_of_ble_eq_true rfl) ?_
  refine EV.ifneB (t := 12) dX7_restore_6 (by decide) (fun c6 => ?_) (fun c6 => ?_)
  · skip
    have c6r := of_rg c6
    obtain ⟨n, rfl⟩ : ∃ n : Nat, z = (n : Int) := ⟨z.toNat, by omega⟩
    have hn2 : n < 2 := by omega
    have hik := kq_01 hkq hn2
    have hi2 : ik n = 0 ∨ ik n = 1 := by rcases hik with h | h; exact Or.inl h.1; exact Or.inr h.1
    refine EV.aload_n (i := 0) dX7_restore_12 rfl rfl ?_
    refine EV.getf fl_X7_37 dX7_restore_13 g0 rfl ?_
    refine EV.iload_n (i := 1) dX7_restore_16 rfl rfl ?_
    refine EV.zald dX7_restore_17 g10 (n) (rfl) (by omega) ?_
    refine EV.ifne (t := 24) dX7_restore_18 (by decide) (by omega) (fun c18 => ?_) (fun c18 => ?_)
    · skip
      rcases hik with ⟨hi0, _⟩ | ⟨hi1, q, hq, he⟩
      exact absurd hi0 c18
      refine EV.bipush dX7_restore_24 (by decide) ?_
      refine EV.iload_n (i := 1) dX7_restore_26 rfl rfl ?_
      refine EV.imul dX7_restore_27 ?_
      refine EV.istore_n (i := 2) (lv' := [some (.ref (A 0)), some (.int (zI ((n : Int)))), some (.int (zI ((100 * (n : Int))))), none]) dX7_restore_28 rfl (by decide) rfl ?_
      refine EV.iconst dX7_restore_29 ?_
      refine EV.istore_n (i := 3) (lv' := [some (.ref (A 0)), some (.int (zI ((n : Int)))), some (.int (zI ((100 * (n : Int))))), some (.int (zI (0)))]) dX7_restore_30 rfl (by decide) rfl ?_
      have L31 : ∀ (n31 : Nat) (k : Nat) (fo : Nat → Int) (x3 : Int) (hh : Hp), (k ≤ 48) → (∀ j, j < k → fo j = q.1.2.2.2 j) → 48 - k < n31 → x3 = (k : Int) → hh = HP G h A N Y ((F.1, F.2.1, F.2.2.1, fo), P, T, K, la, ma, ik) → EV G l mX7_restore (d + 2) (fun o h' => o = some (.int (zI (restR kq (n : Int)))) ∧ h' = HP G h A N Y ((restL kq (F, P, T) (n : Int)).1, (restL kq (F, P, T) (n : Int)).2.1, (restL kq (F, P, T) (n : Int)).2.2, K, la, ma, ik)) 31 [some (.ref (A 0)), some (.int (zI ((n : Int)))), some (.int (zI ((100 * (n : Int))))), some (.int (zI (x3)))] [] hh 0 0 := by
        intro n31
        induction n31 with
        | zero => intro _ _ _ _ _ _ hm; exact absurd hm (Nat.not_lt_zero _)
        | succ n31 ih31 =>
          intro k fo x3 hh hk h1 hm31 e3 eh
          subst e3 eh
          have g0 : (HP G h A N Y ((F.1, F.2.1, F.2.2.1, fo), P, T, K, la, ma, ik)) (A 0) = some (obj 7 [.int (zI ((F.1 : Int))), .ref (A 1), .ref (A 2), .ref (A 3), .int (zI ((P.1 : Int))), .ref (A 4), .ref (A 5), .int (zI ((T.1 : Int))), .ref (A 6), .int (zI ((K.1 : Int))), .ref (A 7), .ref (A 8), .ref (A 9), .ref (A 10)]) := hGet hA _ _ 0 (by decide)
          have g1 : (HP G h A N Y ((F.1, F.2.1, F.2.2.1, fo), P, T, K, la, ma, ik)) (A 1) = some (arI G 48 fo) := hGet hA _ _ 1 (by decide)
          have g2 : (HP G h A N Y ((F.1, F.2.1, F.2.2.1, fo), P, T, K, la, ma, ik)) (A 2) = some (arI G 6 F.2.2.1) := hGet hA _ _ 2 (by decide)
          have g3 : (HP G h A N Y ((F.1, F.2.1, F.2.2.1, fo), P, T, K, la, ma, ik)) (A 3) = some (arI G 6 F.2.1) := hGet hA _ _ 3 (by decide)
          have g4 : (HP G h A N Y ((F.1, F.2.1, F.2.2.1, fo), P, T, K, la, ma, ik)) (A 4) = some (arI G 6 P.2.1) := hGet hA _ _ 4 (by decide)
          have g5 : (HP G h A N Y ((F.1, F.2.1, F.2.2.1, fo), P, T, K, la, ma, ik)) (A 5) = some (arI G 6 (nf P.2.2)) := hGet hA _ _ 5 (by decide)
          have g6 : (HP G h A N Y ((F.1, F.2.1, F.2.2.1, fo), P, T, K, la, ma, ik)) (A 6) = some (arI G 12 (sgOf T)) := hGet hA _ _ 6 (by decide)
          have g9 : (HP G h A N Y ((F.1, F.2.1, F.2.2.1, fo), P, T, K, la, ma, ik)) (A 9) = some (arI G 200 ma) := hGet hA _ _ 9 (by decide)
          have g10 : (HP G h A N Y ((F.1, F.2.1, F.2.2.1, fo), P, T, K, la, ma, ik)) (A 10) = some (arZ G 2 ik) := hGet hA _ _ 10 (by decide)
          refine EV.iload_n (i := 3) dX7_restore_31 rfl rfl ?_
          refine EV.bipush dX7_restore_32 (by decide) ?_
          refine EV.icmp_ge (t := 57) dX7_restore_34 (by decide) (by omega) (fun c34 => ?_) (fun c34 => ?_)
          · skip
            obtain rfl : k = 48 := by omega
            refine EV.arcg (g' := q.1.2.2.2) g1 (fun j hj => h1 j (by omega)) ?_
            refine EV.hps (h' := HP G h A N Y ((F.1, F.2.1, F.2.2.1, q.1.2.2.2), P, T, K, la, ma, ik)) (mFO hA _) ?_
            have g0 : (HP G h A N Y ((F.1, F.2.1, F.2.2.1, q.1.2.2.2), P, T, K, la, ma, ik)) (A 0) = some (obj 7 [.int (zI ((F.1 : Int))), .ref (A 1), .ref (A 2), .ref (A 3), .int (zI ((P.1 : Int))), .ref (A 4), .ref (A 5), .int (zI ((T.1 : Int))), .ref (A 6), .int (zI ((K.1 : Int))), .ref (A 7), .ref (A 8), .ref (A 9), .ref (A 10)]) := hGet hA _ _ 0 (by decide)
            have g1 : (HP G h A N Y ((F.1, F.2.1, F.2.2.1, q.1.2.2.2), P, T, K, la, ma, ik)) (A 1) = some (arI G 48 q.1.2.2.2) := hGet hA _ _ 1 (by decide)
            have g2 : (HP G h A N Y ((F.1, F.2.1, F.2.2.1, q.1.2.2.2), P, T, K, la, ma, ik)) (A 2) = some (arI G 6 F.2.2.1) := hGet hA _ _ 2 (by decide)
            have g3 : (HP G h A N Y ((F.1, F.2.1, F.2.2.1, q.1.2.2.2), P, T, K, la, ma, ik)) (A 3) = some (arI G 6 F.2.1) := hGet hA _ _ 3 (by decide)
            have g4 : (HP G h A N Y ((F.1, F.2.1, F.2.2.1, q.1.2.2.2), P, T, K, la, ma, ik)) (A 4) = some (arI G 6 P.2.1) := hGet hA _ _ 4 (by decide)
            have g5 : (HP G h A N Y ((F.1, F.2.1, F.2.2.1, q.1.2.2.2), P, T, K, la, ma, ik)) (A 5) = some (arI G 6 (nf P.2.2)) := hGet hA _ _ 5 (by decide)
            have g6 : (HP G h A N Y ((F.1, F.2.1, F.2.2.1, q.1.2.2.2), P, T, K, la, ma, ik)) (A 6) = some (arI G 12 (sgOf T)) := hGet hA _ _ 6 (by decide)
            have g9 : (HP G h A N Y ((F.1, F.2.1, F.2.2.1, q.1.2.2.2), P, T, K, la, ma, ik)) (A 9) = some (arI G 200 ma) := hGet hA _ _ 9 (by decide)
            have g10 : (HP G h A N Y ((F.1, F.2.1, F.2.2.1, q.1.2.2.2), P, T, K, la, ma, ik)) (A 10) = some (arZ G 2 ik) := hGet hA _ _ 10 (by decide)
            refine EV.iconst dX7_restore_57 ?_
            refine EV.istore_n (i := 3) (lv' := [some (.ref (A 0)), some (.int (zI ((n : Int)))), some (.int (zI ((100 * (n : Int))))), some (.int (zI (0)))]) dX7_restore_58 rfl (by decide) rfl ?_
            have L59 : ∀ (n59 : Nat) (k : Nat) (fs fb fd : Nat → Int) (fw : Nat → Nat) (x3 : Int) (hh : Hp), (k ≤ 6) → (∀ j, j < k → fs j = q.1.2.2.1 j ∧ fb j = q.1.2.1 j ∧ fd j = q.2.1.2.1 j ∧ fw j = q.2.1.2.2 j) → 6 - k < n59 → x3 = (k : Int) → hh = HP G h A N Y ((F.1, fb, fs, q.1.2.2.2), (P.1, fd, fw), T, K, la, ma, ik) → EV G l mX7_restore (d + 2) (fun o h' => o = some (.int (zI (restR kq (n : Int)))) ∧ h' = HP G h A N Y ((restL kq (F, P, T) (n : Int)).1, (restL kq (F, P, T) (n : Int)).2.1, (restL kq (F, P, T) (n : Int)).2.2, K, la, ma, ik)) 59 [some (.ref (A 0)), some (.int (zI ((n : Int)))), some (.int (zI ((100 * (n : Int))))), some (.int (zI (x3)))] [] hh 0 0 := by
              intro n59
              induction n59 with
              | zero => intro _ _ _ _ _ _ _ _ _ hm; exact absurd hm (Nat.not_lt_zero _)
              | succ n59 ih59 =>
                intro k fs fb fd fw x3 hh hk h2 hm59 e3 eh
                subst e3 eh
                have g0 : (HP G h A N Y ((F.1, fb, fs, q.1.2.2.2), (P.1, fd, fw), T, K, la, ma, ik)) (A 0) = some (obj 7 [.int (zI ((F.1 : Int))), .ref (A 1), .ref (A 2), .ref (A 3), .int (zI ((P.1 : Int))), .ref (A 4), .ref (A 5), .int (zI ((T.1 : Int))), .ref (A 6), .int (zI ((K.1 : Int))), .ref (A 7), .ref (A 8), .ref (A 9), .ref (A 10)]) := hGet hA _ _ 0 (by decide)
                have g1 : (HP G h A N Y ((F.1, fb, fs, q.1.2.2.2), (P.1, fd, fw), T, K, la, ma, ik)) (A 1) = some (arI G 48 q.1.2.2.2) := hGet hA _ _ 1 (by decide)
                have g2 : (HP G h A N Y ((F.1, fb, fs, q.1.2.2.2), (P.1, fd, fw), T, K, la, ma, ik)) (A 2) = some (arI G 6 fs) := hGet hA _ _ 2 (by decide)
                have g3 : (HP G h A N Y ((F.1, fb, fs, q.1.2.2.2), (P.1, fd, fw), T, K, la, ma, ik)) (A 3) = some (arI G 6 fb) := hGet hA _ _ 3 (by decide)
                have g4 : (HP G h A N Y ((F.1, fb, fs, q.1.2.2.2), (P.1, fd, fw), T, K, la, ma, ik)) (A 4) = some (arI G 6 fd) := hGet hA _ _ 4 (by decide)
                have g5 : (HP G h A N Y ((F.1, fb, fs, q.1.2.2.2), (P.1, fd, fw), T, K, la, ma, ik)) (A 5) = some (arI G 6 (nf fw)) := hGet hA _ _ 5 (by decide)
                have g6 : (HP G h A N Y ((F.1, fb, fs, q.1.2.2.2), (P.1, fd, fw), T, K, la, ma, ik)) (A 6) = some (arI G 12 (sgOf T)) := hGet hA _ _ 6 (by decide)
                have g9 : (HP G h A N Y ((F.1, fb, fs, q.1.2.2.2), (P.1, fd, fw), T, K, la, ma, ik)) (A 9) = some (arI G 200 ma) := hGet hA _ _ 9 (by decide)
                have g10 : (HP G h A N Y ((F.1, fb, fs, q.1.2.2.2), (P.1, fd, fw), T, K, la, ma, ik)) (A 10) = some (arZ G 2 ik) := hGet hA _ _ 10 (by decide)
                refine EV.iload_n (i := 3) dX7_restore_59 rfl rfl ?_
                refine EV.bipush dX7_restore_60 (by decide) ?_
                refine EV.icmp_ge (t := 139) dX7_restore_62 (by decide) (by omega) (fun c62 => ?_) (fun c62 => ?_)
                · skip
                  obtain rfl : k = 6 := by omega
                  refine EV.arcg (g' := q.1.2.2.1) g2 (fun j hj => (h2 j (by omega)).1) ?_
                  refine EV.hps (h' := HP G h A N Y ((F.1, fb, q.1.2.2.1, q.1.2.2.2), (P.1, fd, fw), T, K, la, ma, ik)) (mFS hA _) ?_
                  have g0 : (HP G h A N Y ((F.1, fb, q.1.2.2.1, q.1.2.2.2), (P.1, fd, fw), T, K, la, ma, ik)) (A 0) = some (obj 7 [.int (zI ((F.1 : Int))), .ref (A 1), .ref (A 2), .ref (A 3), .int (zI ((P.1 : Int))), .ref (A 4), .ref (A 5), .int (zI ((T.1 : Int))), .ref (A 6), .int (zI ((K.1 : Int))), .ref (A 7), .ref (A 8), .ref (A 9), .ref (A 10)]) := hGet hA _ _ 0 (by decide)
                  have g1 : (HP G h A N Y ((F.1, fb, q.1.2.2.1, q.1.2.2.2), (P.1, fd, fw), T, K, la, ma, ik)) (A 1) = some (arI G 48 q.1.2.2.2) := hGet hA _ _ 1 (by decide)
                  have g2 : (HP G h A N Y ((F.1, fb, q.1.2.2.1, q.1.2.2.2), (P.1, fd, fw), T, K, la, ma, ik)) (A 2) = some (arI G 6 q.1.2.2.1) := hGet hA _ _ 2 (by decide)
                  have g3 : (HP G h A N Y ((F.1, fb, q.1.2.2.1, q.1.2.2.2), (P.1, fd, fw), T, K, la, ma, ik)) (A 3) = some (arI G 6 fb) := hGet hA _ _ 3 (by decide)
                  have g4 : (HP G h A N Y ((F.1, fb, q.1.2.2.1, q.1.2.2.2), (P.1, fd, fw), T, K, la, ma, ik)) (A 4) = some (arI G 6 fd) := hGet hA _ _ 4 (by decide)
                  have g5 : (HP G h A N Y ((F.1, fb, q.1.2.2.1, q.1.2.2.2), (P.1, fd, fw), T, K, la, ma, ik)) (A 5) = some (arI G 6 (nf fw)) := hGet hA _ _ 5 (by decide)
                  have g6 : (HP G h A N Y ((F.1, fb, q.1.2.2.1, q.1.2.2.2), (P.1, fd, fw), T, K, la, ma, ik)) (A 6) = some (arI G 12 (sgOf T)) := hGet hA _ _ 6 (by decide)
                  have g9 : (HP G h A N Y ((F.1, fb, q.1.2.2.1, q.1.2.2.2), (P.1, fd, fw), T, K, la, ma, ik)) (A 9) = some (arI G 200 ma) := hGet hA _ _ 9 (by decide)
                  have g10 : (HP G h A N Y ((F.1, fb, q.1.2.2.1, q.1.2.2.2), (P.1, fd, fw), T, K, la, ma, ik)) (A 10) = some (arZ G 2 ik) := hGet hA _ _ 10 (by decide)
                  refine EV.arcg (g' := q.1.2.1) g3 (fun j hj => (h2 j (by omega)).2.1) ?_
                  refine EV.hps (h' := HP G h A N Y ((F.1, q.1.2.1, q.1.2.2.1, q.1.2.2.2), (P.1, fd, fw), T, K, la, ma, ik)) (mFB hA _) ?_
                  have g0 : (HP G h A N Y ((F.1, q.1.2.1, q.1.2.2.1, q.1.2.2.2), (P.1, fd, fw), T, K, la, ma, ik)) (A 0) = some (obj 7 [.int (zI ((F.1 : Int))), .ref (A 1), .ref (A 2), .ref (A 3), .int (zI ((P.1 : Int))), .ref (A 4), .ref (A 5), .int (zI ((T.1 : Int))), .ref (A 6), .int (zI ((K.1 : Int))), .ref (A 7), .ref (A 8), .ref (A 9), .ref (A 10)]) := hGet hA _ _ 0 (by decide)
                  have g1 : (HP G h A N Y ((F.1, q.1.2.1, q.1.2.2.1, q.1.2.2.2), (P.1, fd, fw), T, K, la, ma, ik)) (A 1) = some (arI G 48 q.1.2.2.2) := hGet hA _ _ 1 (by decide)
                  have g2 : (HP G h A N Y ((F.1, q.1.2.1, q.1.2.2.1, q.1.2.2.2), (P.1, fd, fw), T, K, la, ma, ik)) (A 2) = some (arI G 6 q.1.2.2.1) := hGet hA _ _ 2 (by decide)
                  have g3 : (HP G h A N Y ((F.1, q.1.2.1, q.1.2.2.1, q.1.2.2.2), (P.1, fd, fw), T, K, la, ma, ik)) (A 3) = some (arI G 6 q.1.2.1) := hGet hA _ _ 3 (by decide)
                  have g4 : (HP G h A N Y ((F.1, q.1.2.1, q.1.2.2.1, q.1.2.2.2), (P.1, fd, fw), T, K, la, ma, ik)) (A 4) = some (arI G 6 fd) := hGet hA _ _ 4 (by decide)
                  have g5 : (HP G h A N Y ((F.1, q.1.2.1, q.1.2.2.1, q.1.2.2.2), (P.1, fd, fw), T, K, la, ma, ik)) (A 5) = some (arI G 6 (nf fw)) := hGet hA _ _ 5 (by decide)
                  have g6 : (HP G h A N Y ((F.1, q.1.2.1, q.1.2.2.1, q.1.2.2.2), (P.1, fd, fw), T, K, la, ma, ik)) (A 6) = some (arI G 12 (sgOf T)) := hGet hA _ _ 6 (by decide)
                  have g9 : (HP G h A N Y ((F.1, q.1.2.1, q.1.2.2.1, q.1.2.2.2), (P.1, fd, fw), T, K, la, ma, ik)) (A 9) = some (arI G 200 ma) := hGet hA _ _ 9 (by decide)
                  have g10 : (HP G h A N Y ((F.1, q.1.2.1, q.1.2.2.1, q.1.2.2.2), (P.1, fd, fw), T, K, la, ma, ik)) (A 10) = some (arZ G 2 ik) := hGet hA _ _ 10 (by decide)
                  refine EV.arcg (g' := q.2.1.2.1) g4 (fun j hj => (h2 j (by omega)).2.2.1) ?_
                  refine EV.hps (h' := HP G h A N Y ((F.1, q.1.2.1, q.1.2.2.1, q.1.2.2.2), (P.1, q.2.1.2.1, fw), T, K, la, ma, ik)) (mPd hA _) ?_
                  have g0 : (HP G h A N Y ((F.1, q.1.2.1, q.1.2.2.1, q.1.2.2.2), (P.1, q.2.1.2.1, fw), T, K, la, ma, ik)) (A 0) = some (obj 7 [.int (zI ((F.1 : Int))), .ref (A 1), .ref (A 2), .ref (A 3), .int (zI ((P.1 : Int))), .ref (A 4), .ref (A 5), .int (zI ((T.1 : Int))), .ref (A 6), .int (zI ((K.1 : Int))), .ref (A 7), .ref (A 8), .ref (A 9), .ref (A 10)]) := hGet hA _ _ 0 (by decide)
                  have g1 : (HP G h A N Y ((F.1, q.1.2.1, q.1.2.2.1, q.1.2.2.2), (P.1, q.2.1.2.1, fw), T, K, la, ma, ik)) (A 1) = some (arI G 48 q.1.2.2.2) := hGet hA _ _ 1 (by decide)
                  have g2 : (HP G h A N Y ((F.1, q.1.2.1, q.1.2.2.1, q.1.2.2.2), (P.1, q.2.1.2.1, fw), T, K, la, ma, ik)) (A 2) = some (arI G 6 q.1.2.2.1) := hGet hA _ _ 2 (by decide)
                  have g3 : (HP G h A N Y ((F.1, q.1.2.1, q.1.2.2.1, q.1.2.2.2), (P.1, q.2.1.2.1, fw), T, K, la, ma, ik)) (A 3) = some (arI G 6 q.1.2.1) := hGet hA _ _ 3 (by decide)
                  have g4 : (HP G h A N Y ((F.1, q.1.2.1, q.1.2.2.1, q.1.2.2.2), (P.1, q.2.1.2.1, fw), T, K, la, ma, ik)) (A 4) = some (arI G 6 q.2.1.2.1) := hGet hA _ _ 4 (by decide)
                  have g5 : (HP G h A N Y ((F.1, q.1.2.1, q.1.2.2.1, q.1.2.2.2), (P.1, q.2.1.2.1, fw), T, K, la, ma, ik)) (A 5) = some (arI G 6 (nf fw)) := hGet hA _ _ 5 (by decide)
                  have g6 : (HP G h A N Y ((F.1, q.1.2.1, q.1.2.2.1, q.1.2.2.2), (P.1, q.2.1.2.1, fw), T, K, la, ma, ik)) (A 6) = some (arI G 12 (sgOf T)) := hGet hA _ _ 6 (by decide)
                  have g9 : (HP G h A N Y ((F.1, q.1.2.1, q.1.2.2.1, q.1.2.2.2), (P.1, q.2.1.2.1, fw), T, K, la, ma, ik)) (A 9) = some (arI G 200 ma) := hGet hA _ _ 9 (by decide)
                  have g10 : (HP G h A N Y ((F.1, q.1.2.1, q.1.2.2.1, q.1.2.2.2), (P.1, q.2.1.2.1, fw), T, K, la, ma, ik)) (A 10) = some (arZ G 2 ik) := hGet hA _ _ 10 (by decide)
                  refine EV.arcg (g' := nf q.2.1.2.2) g5 (fun j hj => by unfold nf; rw [(h2 j (by omega)).2.2.2]) ?_
                  refine EV.hps (h' := HP G h A N Y ((F.1, q.1.2.1, q.1.2.2.1, q.1.2.2.2), (P.1, q.2.1.2.1, q.2.1.2.2), T, K, la, ma, ik)) (mPw hA _) ?_
                  have g0 : (HP G h A N Y ((F.1, q.1.2.1, q.1.2.2.1, q.1.2.2.2), (P.1, q.2.1.2.1, q.2.1.2.2), T, K, la, ma, ik)) (A 0) = some (obj 7 [.int (zI ((F.1 : Int))), .ref (A 1), .ref (A 2), .ref (A 3), .int (zI ((P.1 : Int))), .ref (A 4), .ref (A 5), .int (zI ((T.1 : Int))), .ref (A 6), .int (zI ((K.1 : Int))), .ref (A 7), .ref (A 8), .ref (A 9), .ref (A 10)]) := hGet hA _ _ 0 (by decide)
                  have g1 : (HP G h A N Y ((F.1, q.1.2.1, q.1.2.2.1, q.1.2.2.2), (P.1, q.2.1.2.1, q.2.1.2.2), T, K, la, ma, ik)) (A 1) = some (arI G 48 q.1.2.2.2) := hGet hA _ _ 1 (by decide)
                  have g2 : (HP G h A N Y ((F.1, q.1.2.1, q.1.2.2.1, q.1.2.2.2), (P.1, q.2.1.2.1, q.2.1.2.2), T, K, la, ma, ik)) (A 2) = some (arI G 6 q.1.2.2.1) := hGet hA _ _ 2 (by decide)
                  have g3 : (HP G h A N Y ((F.1, q.1.2.1, q.1.2.2.1, q.1.2.2.2), (P.1, q.2.1.2.1, q.2.1.2.2), T, K, la, ma, ik)) (A 3) = some (arI G 6 q.1.2.1) := hGet hA _ _ 3 (by decide)
                  have g4 : (HP G h A N Y ((F.1, q.1.2.1, q.1.2.2.1, q.1.2.2.2), (P.1, q.2.1.2.1, q.2.1.2.2), T, K, la, ma, ik)) (A 4) = some (arI G 6 q.2.1.2.1) := hGet hA _ _ 4 (by decide)
                  have g5 : (HP G h A N Y ((F.1, q.1.2.1, q.1.2.2.1, q.1.2.2.2), (P.1, q.2.1.2.1, q.2.1.2.2), T, K, la, ma, ik)) (A 5) = some (arI G 6 (nf q.2.1.2.2)) := hGet hA _ _ 5 (by decide)
                  have g6 : (HP G h A N Y ((F.1, q.1.2.1, q.1.2.2.1, q.1.2.2.2), (P.1, q.2.1.2.1, q.2.1.2.2), T, K, la, ma, ik)) (A 6) = some (arI G 12 (sgOf T)) := hGet hA _ _ 6 (by decide)
                  have g9 : (HP G h A N Y ((F.1, q.1.2.1, q.1.2.2.1, q.1.2.2.2), (P.1, q.2.1.2.1, q.2.1.2.2), T, K, la, ma, ik)) (A 9) = some (arI G 200 ma) := hGet hA _ _ 9 (by decide)
                  have g10 : (HP G h A N Y ((F.1, q.1.2.1, q.1.2.2.1, q.1.2.2.2), (P.1, q.2.1.2.1, q.2.1.2.2), T, K, la, ma, ik)) (A 10) = some (arZ G 2 ik) := hGet hA _ _ 10 (by decide)
                  refine EV.iconst dX7_restore_139 ?_
                  refine EV.istore_n (i := 3) (lv' := [some (.ref (A 0)), some (.int (zI ((n : Int)))), some (.int (zI ((100 * (n : Int))))), some (.int (zI (0)))]) dX7_restore_140 rfl (by decide) rfl ?_
                  have L141 : ∀ (n141 : Nat) (k : Nat) (t1 t2 : Nat → Int) (x3 : Int) (hh : Hp), (k ≤ 12) → (∀ j, j < k → sgOf (T.1, t1, t2) j = sgOf q.2.2 j) → 12 - k < n141 → x3 = (k : Int) → hh = HP G h A N Y ((F.1, q.1.2.1, q.1.2.2.1, q.1.2.2.2), (P.1, q.2.1.2.1, q.2.1.2.2), (T.1, t1, t2), K, la, ma, ik) → EV G l mX7_restore (d + 2) (fun o h' => o = some (.int (zI (restR kq (n : Int)))) ∧ h' = HP G h A N Y ((restL kq (F, P, T) (n : Int)).1, (restL kq (F, P, T) (n : Int)).2.1, (restL kq (F, P, T) (n : Int)).2.2, K, la, ma, ik)) 141 [some (.ref (A 0)), some (.int (zI ((n : Int)))), some (.int (zI ((100 * (n : Int))))), some (.int (zI (x3)))] [] hh 0 0 := by
                    intro n141
                    induction n141 with
                    | zero => intro _ _ _ _ _ _ _ hm; exact absurd hm (Nat.not_lt_zero _)
                    | succ n141 ih141 =>
                      intro k t1 t2 x3 hh hk h3 hm141 e3 eh
                      subst e3 eh
                      have g0 : (HP G h A N Y ((F.1, q.1.2.1, q.1.2.2.1, q.1.2.2.2), (P.1, q.2.1.2.1, q.2.1.2.2), (T.1, t1, t2), K, la, ma, ik)) (A 0) = some (obj 7 [.int (zI ((F.1 : Int))), .ref (A 1), .ref (A 2), .ref (A 3), .int (zI ((P.1 : Int))), .ref (A 4), .ref (A 5), .int (zI ((T.1 : Int))), .ref (A 6), .int (zI ((K.1 : Int))), .ref (A 7), .ref (A 8), .ref (A 9), .ref (A 10)]) := hGet hA _ _ 0 (by decide)
                      have g1 : (HP G h A N Y ((F.1, q.1.2.1, q.1.2.2.1, q.1.2.2.2), (P.1, q.2.1.2.1, q.2.1.2.2), (T.1, t1, t2), K, la, ma, ik)) (A 1) = some (arI G 48 q.1.2.2.2) := hGet hA _ _ 1 (by decide)
                      have g2 : (HP G h A N Y ((F.1, q.1.2.1, q.1.2.2.1, q.1.2.2.2), (P.1, q.2.1.2.1, q.2.1.2.2), (T.1, t1, t2), K, la, ma, ik)) (A 2) = some (arI G 6 q.1.2.2.1) := hGet hA _ _ 2 (by decide)
                      have g3 : (HP G h A N Y ((F.1, q.1.2.1, q.1.2.2.1, q.1.2.2.2), (P.1, q.2.1.2.1, q.2.1.2.2), (T.1, t1, t2), K, la, ma, ik)) (A 3) = some (arI G 6 q.1.2.1) := hGet hA _ _ 3 (by decide)
                      have g4 : (HP G h A N Y ((F.1, q.1.2.1, q.1.2.2.1, q.1.2.2.2), (P.1, q.2.1.2.1, q.2.1.2.2), (T.1, t1, t2), K, la, ma, ik)) (A 4) = some (arI G 6 q.2.1.2.1) := hGet hA _ _ 4 (by decide)
                      have g5 : (HP G h A N Y ((F.1, q.1.2.1, q.1.2.2.1, q.1.2.2.2), (P.1, q.2.1.2.1, q.2.1.2.2), (T.1, t1, t2), K, la, ma, ik)) (A 5) = some (arI G 6 (nf q.2.1.2.2)) := hGet hA _ _ 5 (by decide)
                      have g6 : (HP G h A N Y ((F.1, q.1.2.1, q.1.2.2.1, q.1.2.2.2), (P.1, q.2.1.2.1, q.2.1.2.2), (T.1, t1, t2), K, la, ma, ik)) (A 6) = some (arI G 12 (sgOf (T.1, t1, t2))) := hGet hA _ _ 6 (by decide)
                      have g9 : (HP G h A N Y ((F.1, q.1.2.1, q.1.2.2.1, q.1.2.2.2), (P.1, q.2.1.2.1, q.2.1.2.2), (T.1, t1, t2), K, la, ma, ik)) (A 9) = some (arI G 200 ma) := hGet hA _ _ 9 (by decide)
                      have g10 : (HP G h A N Y ((F.1, q.1.2.1, q.1.2.2.1, q.1.2.2.2), (P.1, q.2.1.2.1, q.2.1.2.2), (T.1, t1, t2), K, la, ma, ik)) (A 10) = some (arZ G 2 ik) := hGet hA _ _ 10 (by decide)
                      refine EV.iload_n (i := 3) dX7_restore_141 rfl rfl ?_
                      refine EV.bipush dX7_restore_142 (by decide) ?_
                      refine EV.icmp_ge (t := 170) dX7_restore_144 (by decide) (by omega) (fun c144 => ?_) (fun c144 => ?_)
                      · skip
                        obtain rfl : k = 12 := by omega
                        refine EV.arcg (g' := sgOf (T.1, q.2.2.2)) g6 (fun j hj => h3 j (by omega)) ?_
                        refine EV.hps (h' := HP G h A N Y ((F.1, q.1.2.1, q.1.2.2.1, q.1.2.2.2), (P.1, q.2.1.2.1, q.2.1.2.2), (T.1, q.2.2.2.1, q.2.2.2.2), K, la, ma, ik)) (mT2 hA _ _ _ rfl) ?_
                        have g0 : (HP G h A N Y ((F.1, q.1.2.1, q.1.2.2.1, q.1.2.2.2), (P.1, q.2.1.2.1, q.2.1.2.2), (T.1, q.2.2.2.1, q.2.2.2.2), K, la, ma, ik)) (A 0) = some (obj 7 [.int (zI ((F.1 : Int))), .ref (A 1), .ref (A 2), .ref (A 3), .int (zI ((P.1 : Int))), .ref (A 4), .ref (A 5), .int (zI ((T.1 : Int))), .ref (A 6), .int (zI ((K.1 : Int))), .ref (A 7), .ref (A 8), .ref (A 9), .ref (A 10)]) := hGet hA _ _ 0 (by decide)
                        have g1 : (HP G h A N Y ((F.1, q.1.2.1, q.1.2.2.1, q.1.2.2.2), (P.1, q.2.1.2.1, q.2.1.2.2), (T.1, q.2.2.2.1, q.2.2.2.2), K, la, ma, ik)) (A 1) = some (arI G 48 q.1.2.2.2) := hGet hA _ _ 1 (by decide)
                        have g2 : (HP G h A N Y ((F.1, q.1.2.1, q.1.2.2.1, q.1.2.2.2), (P.1, q.2.1.2.1, q.2.1.2.2), (T.1, q.2.2.2.1, q.2.2.2.2), K, la, ma, ik)) (A 2) = some (arI G 6 q.1.2.2.1) := hGet hA _ _ 2 (by decide)
                        have g3 : (HP G h A N Y ((F.1, q.1.2.1, q.1.2.2.1, q.1.2.2.2), (P.1, q.2.1.2.1, q.2.1.2.2), (T.1, q.2.2.2.1, q.2.2.2.2), K, la, ma, ik)) (A 3) = some (arI G 6 q.1.2.1) := hGet hA _ _ 3 (by decide)
                        have g4 : (HP G h A N Y ((F.1, q.1.2.1, q.1.2.2.1, q.1.2.2.2), (P.1, q.2.1.2.1, q.2.1.2.2), (T.1, q.2.2.2.1, q.2.2.2.2), K, la, ma, ik)) (A 4) = some (arI G 6 q.2.1.2.1) := hGet hA _ _ 4 (by decide)
                        have g5 : (HP G h A N Y ((F.1, q.1.2.1, q.1.2.2.1, q.1.2.2.2), (P.1, q.2.1.2.1, q.2.1.2.2), (T.1, q.2.2.2.1, q.2.2.2.2), K, la, ma, ik)) (A 5) = some (arI G 6 (nf q.2.1.2.2)) := hGet hA _ _ 5 (by decide)
                        have g6 : (HP G h A N Y ((F.1, q.1.2.1, q.1.2.2.1, q.1.2.2.2), (P.1, q.2.1.2.1, q.2.1.2.2), (T.1, q.2.2.2.1, q.2.2.2.2), K, la, ma, ik)) (A 6) = some (arI G 12 (sgOf (T.1, q.2.2.2.1, q.2.2.2.2))) := hGet hA _ _ 6 (by decide)
                        have g9 : (HP G h A N Y ((F.1, q.1.2.1, q.1.2.2.1, q.1.2.2.2), (P.1, q.2.1.2.1, q.2.1.2.2), (T.1, q.2.2.2.1, q.2.2.2.2), K, la, ma, ik)) (A 9) = some (arI G 200 ma) := hGet hA _ _ 9 (by decide)
                        have g10 : (HP G h A N Y ((F.1, q.1.2.1, q.1.2.2.1, q.1.2.2.2), (P.1, q.2.1.2.1, q.2.1.2.2), (T.1, q.2.2.2.1, q.2.2.2.2), K, la, ma, ik)) (A 10) = some (arZ G 2 ik) := hGet hA _ _ 10 (by decide)
                        refine EV.aload_n (i := 0) dX7_restore_170 rfl rfl ?_
                        refine EV.aload_n (i := 0) dX7_restore_171 rfl rfl ?_
                        refine EV.getf fl_X7_34 dX7_restore_172 g0 rfl ?_
                        refine EV.iload_n (i := 2) dX7_restore_175 rfl rfl ?_
                        refine EV.bipush dX7_restore_176 (by decide) ?_
                        refine EV.iadd dX7_restore_178 ?_
                        refine EV.iald dX7_restore_179 g9 (100 * n + 84) (by omega) (by omega) ?_
                        refine EV.top (y := zI ((q.1.1 : Int))) (by rw [he.2.2.2.1]) ?_
                        refine EV.putf (fs' := [.int (zI ((q.1.1 : Int))), .ref (A 1), .ref (A 2), .ref (A 3), .int (zI ((P.1 : Int))), .ref (A 4), .ref (A 5), .int (zI ((T.1 : Int))), .ref (A 6), .int (zI ((K.1 : Int))), .ref (A 7), .ref (A 8), .ref (A 9), .ref (A 10)]) fp_X7_41 dX7_restore_180 g0 (Nat.le_of_ble_eq_true rfl) rfl rfl rfl ?_
                        refine EV.hps (h' := HP G h A N Y ((q.1.1, q.1.2.1, q.1.2.2.1, q.1.2.2.2), (P.1, q.2.1.2.1, q.2.1.2.2), (T.1, q.2.2.2.1, q.2.2.2.2), K, la, ma, ik)) (mX0 hA q.1.1 P.1 T.1 K.1) ?_
                        have g0 : (HP G h A N Y ((q.1.1, q.1.2.1, q.1.2.2.1, q.1.2.2.2), (P.1, q.2.1.2.1, q.2.1.2.2), (T.1, q.2.2.2.1, q.2.2.2.2), K, la, ma, ik)) (A 0) = some (obj 7 [.int (zI ((q.1.1 : Int))), .ref (A 1), .ref (A 2), .ref (A 3), .int (zI ((P.1 : Int))), .ref (A 4), .ref (A 5), .int (zI ((T.1 : Int))), .ref (A 6), .int (zI ((K.1 : Int))), .ref (A 7), .ref (A 8), .ref (A 9), .ref (A 10)]) := hGet hA _ _ 0 (by decide)
                        have g1 : (HP G h A N Y ((q.1.1, q.1.2.1, q.1.2.2.1, q.1.2.2.2), (P.1, q.2.1.2.1, q.2.1.2.2), (T.1, q.2.2.2.1, q.2.2.2.2), K, la, ma, ik)) (A 1) = some (arI G 48 q.1.2.2.2) := hGet hA _ _ 1 (by decide)
                        have g2 : (HP G h A N Y ((q.1.1, q.1.2.1, q.1.2.2.1, q.1.2.2.2), (P.1, q.2.1.2.1, q.2.1.2.2), (T.1, q.2.2.2.1, q.2.2.2.2), K, la, ma, ik)) (A 2) = some (arI G 6 q.1.2.2.1) := hGet hA _ _ 2 (by decide)
                        have g3 : (HP G h A N Y ((q.1.1, q.1.2.1, q.1.2.2.1, q.1.2.2.2), (P.1, q.2.1.2.1, q.2.1.2.2), (T.1, q.2.2.2.1, q.2.2.2.2), K, la, ma, ik)) (A 3) = some (arI G 6 q.1.2.1) := hGet hA _ _ 3 (by decide)
                        have g4 : (HP G h A N Y ((q.1.1, q.1.2.1, q.1.2.2.1, q.1.2.2.2), (P.1, q.2.1.2.1, q.2.1.2.2), (T.1, q.2.2.2.1, q.2.2.2.2), K, la, ma, ik)) (A 4) = some (arI G 6 q.2.1.2.1) := hGet hA _ _ 4 (by decide)
                        have g5 : (HP G h A N Y ((q.1.1, q.1.2.1, q.1.2.2.1, q.1.2.2.2), (P.1, q.2.1.2.1, q.2.1.2.2), (T.1, q.2.2.2.1, q.2.2.2.2), K, la, ma, ik)) (A 5) = some (arI G 6 (nf q.2.1.2.2)) := hGet hA _ _ 5 (by decide)
                        have g6 : (HP G h A N Y ((q.1.1, q.1.2.1, q.1.2.2.1, q.1.2.2.2), (P.1, q.2.1.2.1, q.2.1.2.2), (T.1, q.2.2.2.1, q.2.2.2.2), K, la, ma, ik)) (A 6) = some (arI G 12 (sgOf (T.1, q.2.2.2.1, q.2.2.2.2))) := hGet hA _ _ 6 (by decide)
                        have g9 : (HP G h A N Y ((q.1.1, q.1.2.1, q.1.2.2.1, q.1.2.2.2), (P.1, q.2.1.2.1, q.2.1.2.2), (T.1, q.2.2.2.1, q.2.2.2.2), K, la, ma, ik)) (A 9) = some (arI G 200 ma) := hGet hA _ _ 9 (by decide)
                        have g10 : (HP G h A N Y ((q.1.1, q.1.2.1, q.1.2.2.1, q.1.2.2.2), (P.1, q.2.1.2.1, q.2.1.2.2), (T.1, q.2.2.2.1, q.2.2.2.2), K, la, ma, ik)) (A 10) = some (arZ G 2 ik) := hGet hA _ _ 10 (by decide)
                        refine EV.aload_n (i := 0) dX7_restore_183 rfl rfl ?_
                        refine EV.aload_n (i := 0) dX7_restore_184 rfl rfl ?_
                        refine EV.getf fl_X7_34 dX7_restore_185 g0 rfl ?_
                        refine EV.iload_n (i := 2) dX7_restore_188 rfl rfl ?_
                        refine EV.bipush dX7_restore_189 (by decide) ?_
                        refine EV.iadd dX7_restore_191 ?_
                        refine EV.iald dX7_restore_192 g9 (100 * n + 85) (by omega) (by omega) ?_
                        refine EV.top (y := zI ((q.2.1.1 : Int))) (by rw [he.2.2.2.2.1]) ?_
                        refine EV.putf (fs' := [.int (zI ((q.1.1 : Int))), .ref (A 1), .ref (A 2), .ref (A 3), .int (zI ((q.2.1.1 : Int))), .ref (A 4), .ref (A 5), .int (zI ((T.1 : Int))), .ref (A 6), .int (zI ((K.1 : Int))), .ref (A 7), .ref (A 8), .ref (A 9), .ref (A 10)]) fp_X7_74 dX7_restore_193 g0 (Nat.le_of_ble_eq_true rfl) rfl rfl rfl ?_
                        refine EV.hps (h' := HP G h A N Y ((q.1.1, q.1.2.1, q.1.2.2.1, q.1.2.2.2), (q.2.1.1, q.2.1.2.1, q.2.1.2.2), (T.1, q.2.2.2.1, q.2.2.2.2), K, la, ma, ik)) (mX0 hA q.1.1 q.2.1.1 T.1 K.1) ?_
                        have g0 : (HP G h A N Y ((q.1.1, q.1.2.1, q.1.2.2.1, q.1.2.2.2), (q.2.1.1, q.2.1.2.1, q.2.1.2.2), (T.1, q.2.2.2.1, q.2.2.2.2), K, la, ma, ik)) (A 0) = some (obj 7 [.int (zI ((q.1.1 : Int))), .ref (A 1), .ref (A 2), .ref (A 3), .int (zI ((q.2.1.1 : Int))), .ref (A 4), .ref (A 5), .int (zI ((T.1 : Int))), .ref (A 6), .int (zI ((K.1 : Int))), .ref (A 7), .ref (A 8), .ref (A 9), .ref (A 10)]) := hGet hA _ _ 0 (by decide)
                        have g1 : (HP G h A N Y ((q.1.1, q.1.2.1, q.1.2.2.1, q.1.2.2.2), (q.2.1.1, q.2.1.2.1, q.2.1.2.2), (T.1, q.2.2.2.1, q.2.2.2.2), K, la, ma, ik)) (A 1) = some (arI G 48 q.1.2.2.2) := hGet hA _ _ 1 (by decide)
                        have g2 : (HP G h A N Y ((q.1.1, q.1.2.1, q.1.2.2.1, q.1.2.2.2), (q.2.1.1, q.2.1.2.1, q.2.1.2.2), (T.1, q.2.2.2.1, q.2.2.2.2), K, la, ma, ik)) (A 2) = some (arI G 6 q.1.2.2.1) := hGet hA _ _ 2 (by decide)
                        have g3 : (HP G h A N Y ((q.1.1, q.1.2.1, q.1.2.2.1, q.1.2.2.2), (q.2.1.1, q.2.1.2.1, q.2.1.2.2), (T.1, q.2.2.2.1, q.2.2.2.2), K, la, ma, ik)) (A 3) = some (arI G 6 q.1.2.1) := hGet hA _ _ 3 (by decide)
                        have g4 : (HP G h A N Y ((q.1.1, q.1.2.1, q.1.2.2.1, q.1.2.2.2), (q.2.1.1, q.2.1.2.1, q.2.1.2.2), (T.1, q.2.2.2.1, q.2.2.2.2), K, la, ma, ik)) (A 4) = some (arI G 6 q.2.1.2.1) := hGet hA _ _ 4 (by decide)
                        have g5 : (HP G h A N Y ((q.1.1, q.1.2.1, q.1.2.2.1, q.1.2.2.2), (q.2.1.1, q.2.1.2.1, q.2.1.2.2), (T.1, q.2.2.2.1, q.2.2.2.2), K, la, ma, ik)) (A 5) = some (arI G 6 (nf q.2.1.2.2)) := hGet hA _ _ 5 (by decide)
                        have g6 : (HP G h A N Y ((q.1.1, q.1.2.1, q.1.2.2.1, q.1.2.2.2), (q.2.1.1, q.2.1.2.1, q.2.1.2.2), (T.1, q.2.2.2.1, q.2.2.2.2), K, la, ma, ik)) (A 6) = some (arI G 12 (sgOf (T.1, q.2.2.2.1, q.2.2.2.2))) := hGet hA _ _ 6 (by decide)
                        have g9 : (HP G h A N Y ((q.1.1, q.1.2.1, q.1.2.2.1, q.1.2.2.2), (q.2.1.1, q.2.1.2.1, q.2.1.2.2), (T.1, q.2.2.2.1, q.2.2.2.2), K, la, ma, ik)) (A 9) = some (arI G 200 ma) := hGet hA _ _ 9 (by decide)
                        have g10 : (HP G h A N Y ((q.1.1, q.1.2.1, q.1.2.2.1, q.1.2.2.2), (q.2.1.1, q.2.1.2.1, q.2.1.2.2), (T.1, q.2.2.2.1, q.2.2.2.2), K, la, ma, ik)) (A 10) = some (arZ G 2 ik) := hGet hA _ _ 10 (by decide)
                        refine EV.aload_n (i := 0) dX7_restore_196 rfl rfl ?_
                        refine EV.aload_n (i := 0) dX7_restore_197 rfl rfl ?_
                        refine EV.getf fl_X7_34 dX7_restore_198 g0 rfl ?_
                        refine EV.iload_n (i := 2) dX7_restore_201 rfl rfl ?_
                        refine EV.bipush dX7_restore_202 (by decide) ?_
                        refine EV.iadd dX7_restore_204 ?_
                        refine EV.iald dX7_restore_205 g9 (100 * n + 86) (by omega) (by omega) ?_
                        refine EV.top (y := zI ((q.2.2.1 : Int))) (by rw [he.2.2.2.2.2]) ?_
                        refine EV.putf (fs' := [.int (zI ((q.1.1 : Int))), .ref (A 1), .ref (A 2), .ref (A 3), .int (zI ((q.2.1.1 : Int))), .ref (A 4), .ref (A 5), .int (zI ((q.2.2.1 : Int))), .ref (A 6), .int (zI ((K.1 : Int))), .ref (A 7), .ref (A 8), .ref (A 9), .ref (A 10)]) fp_X7_128 dX7_restore_206 g0 (Nat.le_of_ble_eq_true rfl) rfl rfl rfl ?_
                        refine EV.hps (h' := HP G h A N Y ((q.1.1, q.1.2.1, q.1.2.2.1, q.1.2.2.2), (q.2.1.1, q.2.1.2.1, q.2.1.2.2), (q.2.2.1, q.2.2.2.1, q.2.2.2.2), K, la, ma, ik)) (mX0 hA q.1.1 q.2.1.1 q.2.2.1 K.1) ?_
                        have g0 : (HP G h A N Y ((q.1.1, q.1.2.1, q.1.2.2.1, q.1.2.2.2), (q.2.1.1, q.2.1.2.1, q.2.1.2.2), (q.2.2.1, q.2.2.2.1, q.2.2.2.2), K, la, ma, ik)) (A 0) = some (obj 7 [.int (zI ((q.1.1 : Int))), .ref (A 1), .ref (A 2), .ref (A 3), .int (zI ((q.2.1.1 : Int))), .ref (A 4), .ref (A 5), .int (zI ((q.2.2.1 : Int))), .ref (A 6), .int (zI ((K.1 : Int))), .ref (A 7), .ref (A 8), .ref (A 9), .ref (A 10)]) := hGet hA _ _ 0 (by decide)
                        have g1 : (HP G h A N Y ((q.1.1, q.1.2.1, q.1.2.2.1, q.1.2.2.2), (q.2.1.1, q.2.1.2.1, q.2.1.2.2), (q.2.2.1, q.2.2.2.1, q.2.2.2.2), K, la, ma, ik)) (A 1) = some (arI G 48 q.1.2.2.2) := hGet hA _ _ 1 (by decide)
                        have g2 : (HP G h A N Y ((q.1.1, q.1.2.1, q.1.2.2.1, q.1.2.2.2), (q.2.1.1, q.2.1.2.1, q.2.1.2.2), (q.2.2.1, q.2.2.2.1, q.2.2.2.2), K, la, ma, ik)) (A 2) = some (arI G 6 q.1.2.2.1) := hGet hA _ _ 2 (by decide)
                        have g3 : (HP G h A N Y ((q.1.1, q.1.2.1, q.1.2.2.1, q.1.2.2.2), (q.2.1.1, q.2.1.2.1, q.2.1.2.2), (q.2.2.1, q.2.2.2.1, q.2.2.2.2), K, la, ma, ik)) (A 3) = some (arI G 6 q.1.2.1) := hGet hA _ _ 3 (by decide)
                        have g4 : (HP G h A N Y ((q.1.1, q.1.2.1, q.1.2.2.1, q.1.2.2.2), (q.2.1.1, q.2.1.2.1, q.2.1.2.2), (q.2.2.1, q.2.2.2.1, q.2.2.2.2), K, la, ma, ik)) (A 4) = some (arI G 6 q.2.1.2.1) := hGet hA _ _ 4 (by decide)
                        have g5 : (HP G h A N Y ((q.1.1, q.1.2.1, q.1.2.2.1, q.1.2.2.2), (q.2.1.1, q.2.1.2.1, q.2.1.2.2), (q.2.2.1, q.2.2.2.1, q.2.2.2.2), K, la, ma, ik)) (A 5) = some (arI G 6 (nf q.2.1.2.2)) := hGet hA _ _ 5 (by decide)
                        have g6 : (HP G h A N Y ((q.1.1, q.1.2.1, q.1.2.2.1, q.1.2.2.2), (q.2.1.1, q.2.1.2.1, q.2.1.2.2), (q.2.2.1, q.2.2.2.1, q.2.2.2.2), K, la, ma, ik)) (A 6) = some (arI G 12 (sgOf (q.2.2.1, q.2.2.2.1, q.2.2.2.2))) := hGet hA _ _ 6 (by decide)
                        have g9 : (HP G h A N Y ((q.1.1, q.1.2.1, q.1.2.2.1, q.1.2.2.2), (q.2.1.1, q.2.1.2.1, q.2.1.2.2), (q.2.2.1, q.2.2.2.1, q.2.2.2.2), K, la, ma, ik)) (A 9) = some (arI G 200 ma) := hGet hA _ _ 9 (by decide)
                        have g10 : (HP G h A N Y ((q.1.1, q.1.2.1, q.1.2.2.1, q.1.2.2.2), (q.2.1.1, q.2.1.2.1, q.2.1.2.2), (q.2.2.1, q.2.2.2.1, q.2.2.2.2), K, la, ma, ik)) (A 10) = some (arZ G 2 ik) := hGet hA _ _ 10 (by decide)
                        refine EV.iconst dX7_restore_209 ?_
                        refine EV.iret rfl dX7_restore_210 ?_
                        have hl : restL kq (F, P, T) (n : Int) = q := by simp [restL, c6, hq]
                        rw [hl]
                        exact ⟨by simp [restR, c6, hq], rfl⟩
                      · skip
                        refine EV.aload_n (i := 0) dX7_restore_147 rfl rfl ?_
                        refine EV.getf fl_X7_25 dX7_restore_148 g0 rfl ?_
                        refine EV.iload_n (i := 3) dX7_restore_151 rfl rfl ?_
                        refine EV.aload_n (i := 0) dX7_restore_152 rfl rfl ?_
                        refine EV.getf fl_X7_34 dX7_restore_153 g0 rfl ?_
                        refine EV.iload_n (i := 2) dX7_restore_156 rfl rfl ?_
                        refine EV.bipush dX7_restore_157 (by decide) ?_
                        refine EV.iadd dX7_restore_159 ?_
                        refine EV.iload_n (i := 3) dX7_restore_160 rfl rfl ?_
                        refine EV.iadd dX7_restore_161 ?_
                        refine EV.iald dX7_restore_162 g9 (100 * n + 72 + k) (by omega) (by omega) ?_
                        refine EV.iast dX7_restore_163 g6 (k) (rfl) (by omega) ?_
                        refine EV.hps (h' := HP G h A N Y ((F.1, q.1.2.1, q.1.2.2.1, q.1.2.2.2), (P.1, q.2.1.2.1, q.2.1.2.2), (T.1, (sg1 t1 k (ma (100 * n + 72 + k))), (sg2 t2 k (ma (100 * n + 72 + k)))), K, la, ma, ik)) (mT2 hA _ _ _ (sg_w _ _ _ _ _)) ?_
                        have g0 : (HP G h A N Y ((F.1, q.1.2.1, q.1.2.2.1, q.1.2.2.2), (P.1, q.2.1.2.1, q.2.1.2.2), (T.1, (sg1 t1 k (ma (100 * n + 72 + k))), (sg2 t2 k (ma (100 * n + 72 + k)))), K, la, ma, ik)) (A 0) = some (obj 7 [.int (zI ((F.1 : Int))), .ref (A 1), .ref (A 2), .ref (A 3), .int (zI ((P.1 : Int))), .ref (A 4), .ref (A 5), .int (zI ((T.1 : Int))), .ref (A 6), .int (zI ((K.1 : Int))), .ref (A 7), .ref (A 8), .ref (A 9), .ref (A 10)]) := hGet hA _ _ 0 (by decide)
                        have g1 : (HP G h A N Y ((F.1, q.1.2.1, q.1.2.2.1, q.1.2.2.2), (P.1, q.2.1.2.1, q.2.1.2.2), (T.1, (sg1 t1 k (ma (100 * n + 72 + k))), (sg2 t2 k (ma (100 * n + 72 + k)))), K, la, ma, ik)) (A 1) = some (arI G 48 q.1.2.2.2) := hGet hA _ _ 1 (by decide)
                        have g2 : (HP G h A N Y ((F.1, q.1.2.1, q.1.2.2.1, q.1.2.2.2), (P.1, q.2.1.2.1, q.2.1.2.2), (T.1, (sg1 t1 k (ma (100 * n + 72 + k))), (sg2 t2 k (ma (100 * n + 72 + k)))), K, la, ma, ik)) (A 2) = some (arI G 6 q.1.2.2.1) := hGet hA _ _ 2 (by decide)
                        have g3 : (HP G h A N Y ((F.1, q.1.2.1, q.1.2.2.1, q.1.2.2.2), (P.1, q.2.1.2.1, q.2.1.2.2), (T.1, (sg1 t1 k (ma (100 * n + 72 + k))), (sg2 t2 k (ma (100 * n + 72 + k)))), K, la, ma, ik)) (A 3) = some (arI G 6 q.1.2.1) := hGet hA _ _ 3 (by decide)
                        have g4 : (HP G h A N Y ((F.1, q.1.2.1, q.1.2.2.1, q.1.2.2.2), (P.1, q.2.1.2.1, q.2.1.2.2), (T.1, (sg1 t1 k (ma (100 * n + 72 + k))), (sg2 t2 k (ma (100 * n + 72 + k)))), K, la, ma, ik)) (A 4) = some (arI G 6 q.2.1.2.1) := hGet hA _ _ 4 (by decide)
                        have g5 : (HP G h A N Y ((F.1, q.1.2.1, q.1.2.2.1, q.1.2.2.2), (P.1, q.2.1.2.1, q.2.1.2.2), (T.1, (sg1 t1 k (ma (100 * n + 72 + k))), (sg2 t2 k (ma (100 * n + 72 + k)))), K, la, ma, ik)) (A 5) = some (arI G 6 (nf q.2.1.2.2)) := hGet hA _ _ 5 (by decide)
                        have g6 : (HP G h A N Y ((F.1, q.1.2.1, q.1.2.2.1, q.1.2.2.2), (P.1, q.2.1.2.1, q.2.1.2.2), (T.1, (sg1 t1 k (ma (100 * n + 72 + k))), (sg2 t2 k (ma (100 * n + 72 + k)))), K, la, ma, ik)) (A 6) = some (arI G 12 (sgOf (T.1, (sg1 t1 k (ma (100 * n + 72 + k))), (sg2 t2 k (ma (100 * n + 72 + k)))))) := hGet hA _ _ 6 (by decide)
                        have g9 : (HP G h A N Y ((F.1, q.1.2.1, q.1.2.2.1, q.1.2.2.2), (P.1, q.2.1.2.1, q.2.1.2.2), (T.1, (sg1 t1 k (ma (100 * n + 72 + k))), (sg2 t2 k (ma (100 * n + 72 + k)))), K, la, ma, ik)) (A 9) = some (arI G 200 ma) := hGet hA _ _ 9 (by decide)
                        have g10 : (HP G h A N Y ((F.1, q.1.2.1, q.1.2.2.1, q.1.2.2.2), (P.1, q.2.1.2.1, q.2.1.2.2), (T.1, (sg1 t1 k (ma (100 * n + 72 + k))), (sg2 t2 k (ma (100 * n + 72 + k)))), K, la, ma, ik)) (A 10) = some (arZ G 2 ik) := hGet hA _ _ 10 (by decide)
                        refine EV.iinc (i := 3) (lv' := [some (.ref (A 0)), some (.int (zI ((n : Int)))), some (.int (zI ((100 * (n : Int))))), some (.int (zI ((k : Int) + 1)))]) dX7_restore_164 rfl (by decide) rfl ?_
                        refine EV.goto (t := 141) dX7_restore_167 (by decide) ?_
                        exact ih141 (k + 1) _ _ _ _ (by omega) (by rw [← sg_w]; exact rs1 h3 (he.2.2.1 k (by omega))) (by omega) (rfl) (rfl)
                  exact L141 _ 0 T.2.1 T.2.2 _ _ (by omega) (fun j hj => absurd hj (Nat.not_lt_zero _)) (Nat.lt_succ_self _) (rfl) (rfl)
                · skip
                  refine EV.aload_n (i := 0) dX7_restore_65 rfl rfl ?_
                  refine EV.getf fl_X7_13 dX7_restore_66 g0 rfl ?_
                  refine EV.iload_n (i := 3) dX7_restore_69 rfl rfl ?_
                  refine EV.aload_n (i := 0) dX7_restore_70 rfl rfl ?_
                  refine EV.getf fl_X7_34 dX7_restore_71 g0 rfl ?_
                  refine EV.iload_n (i := 2) dX7_restore_74 rfl rfl ?_
                  refine EV.bipush dX7_restore_75 (by decide) ?_
                  refine EV.iadd dX7_restore_77 ?_
                  refine EV.iload_n (i := 3) dX7_restore_78 rfl rfl ?_
                  refine EV.iadd dX7_restore_79 ?_
                  refine EV.iald dX7_restore_80 g9 (100 * n + 48 + k) (by omega) (by omega) ?_
                  refine EV.iast dX7_restore_81 g2 (k) (rfl) (by omega) ?_
                  refine EV.hps (h' := HP G h A N Y ((F.1, fb, (uI fs k (ma (100 * n + 48 + k))), q.1.2.2.2), (P.1, fd, fw), T, K, la, ma, ik)) (mFS hA _) ?_
                  have g0 : (HP G h A N Y ((F.1, fb, (uI fs k (ma (100 * n + 48 + k))), q.1.2.2.2), (P.1, fd, fw), T, K, la, ma, ik)) (A 0) = some (obj 7 [.int (zI ((F.1 : Int))), .ref (A 1), .ref (A 2), .ref (A 3), .int (zI ((P.1 : Int))), .ref (A 4), .ref (A 5), .int (zI ((T.1 : Int))), .ref (A 6), .int (zI ((K.1 : Int))), .ref (A 7), .ref (A 8), .ref (A 9), .ref (A 10)]) := hGet hA _ _ 0 (by decide)
                  have g1 : (HP G h A N Y ((F.1, fb, (uI fs k (ma (100 * n + 48 + k))), q.1.2.2.2), (P.1, fd, fw), T, K, la, ma, ik)) (A 1) = some (arI G 48 q.1.2.2.2) := hGet hA _ _ 1 (by decide)
                  have g2 : (HP G h A N Y ((F.1, fb, (uI fs k (ma (100 * n + 48 + k))), q.1.2.2.2), (P.1, fd, fw), T, K, la, ma, ik)) (A 2) = some (arI G 6 (uI fs k (ma (100 * n + 48 + k)))) := hGet hA _ _ 2 (by decide)
                  have g3 : (HP G h A N Y ((F.1, fb, (uI fs k (ma (100 * n + 48 + k))), q.1.2.2.2), (P.1, fd, fw), T, K, la, ma, ik)) (A 3) = some (arI G 6 fb) := hGet hA _ _ 3 (by decide)
                  have g4 : (HP G h A N Y ((F.1, fb, (uI fs k (ma (100 * n + 48 + k))), q.1.2.2.2), (P.1, fd, fw), T, K, la, ma, ik)) (A 4) = some (arI G 6 fd) := hGet hA _ _ 4 (by decide)
                  have g5 : (HP G h A N Y ((F.1, fb, (uI fs k (ma (100 * n + 48 + k))), q.1.2.2.2), (P.1, fd, fw), T, K, la, ma, ik)) (A 5) = some (arI G 6 (nf fw)) := hGet hA _ _ 5 (by decide)
                  have g6 : (HP G h A N Y ((F.1, fb, (uI fs k (ma (100 * n + 48 + k))), q.1.2.2.2), (P.1, fd, fw), T, K, la, ma, ik)) (A 6) = some (arI G 12 (sgOf T)) := hGet hA _ _ 6 (by decide)
                  have g9 : (HP G h A N Y ((F.1, fb, (uI fs k (ma (100 * n + 48 + k))), q.1.2.2.2), (P.1, fd, fw), T, K, la, ma, ik)) (A 9) = some (arI G 200 ma) := hGet hA _ _ 9 (by decide)
                  have g10 : (HP G h A N Y ((F.1, fb, (uI fs k (ma (100 * n + 48 + k))), q.1.2.2.2), (P.1, fd, fw), T, K, la, ma, ik)) (A 10) = some (arZ G 2 ik) := hGet hA _ _ 10 (by decide)
                  refine EV.aload_n (i := 0) dX7_restore_82 rfl rfl ?_
                  refine EV.getf fl_X7_16 dX7_restore_83 g0 rfl ?_
                  refine EV.iload_n (i := 3) dX7_restore_86 rfl rfl ?_
                  refine EV.aload_n (i := 0) dX7_restore_87 rfl rfl ?_
                  refine EV.getf fl_X7_34 dX7_restore_88 g0 rfl ?_
                  refine EV.iload_n (i := 2) dX7_restore_91 rfl rfl ?_
                  refine EV.bipush dX7_restore_92 (by decide) ?_
                  refine EV.iadd dX7_restore_94 ?_
                  refine EV.iload_n (i := 3) dX7_restore_95 rfl rfl ?_
                  refine EV.iadd dX7_restore_96 ?_
                  refine EV.iald dX7_restore_97 g9 (100 * n + 54 + k) (by omega) (by omega) ?_
                  refine EV.iast dX7_restore_98 g3 (k) (rfl) (by omega) ?_
                  refine EV.hps (h' := HP G h A N Y ((F.1, (uI fb k (ma (100 * n + 54 + k))), (uI fs k (ma (100 * n + 48 + k))), q.1.2.2.2), (P.1, fd, fw), T, K, la, ma, ik)) (mFB hA _) ?_
                  have g0 : (HP G h A N Y ((F.1, (uI fb k (ma (100 * n + 54 + k))), (uI fs k (ma (100 * n + 48 + k))), q.1.2.2.2), (P.1, fd, fw), T, K, la, ma, ik)) (A 0) = some (obj 7 [.int (zI ((F.1 : Int))), .ref (A 1), .ref (A 2), .ref (A 3), .int (zI ((P.1 : Int))), .ref (A 4), .ref (A 5), .int (zI ((T.1 : Int))), .ref (A 6), .int (zI ((K.1 : Int))), .ref (A 7), .ref (A 8), .ref (A 9), .ref (A 10)]) := hGet hA _ _ 0 (by decide)
                  have g1 : (HP G h A N Y ((F.1, (uI fb k (ma (100 * n + 54 + k))), (uI fs k (ma (100 * n + 48 + k))), q.1.2.2.2), (P.1, fd, fw), T, K, la, ma, ik)) (A 1) = some (arI G 48 q.1.2.2.2) := hGet hA _ _ 1 (by decide)
                  have g2 : (HP G h A N Y ((F.1, (uI fb k (ma (100 * n + 54 + k))), (uI fs k (ma (100 * n + 48 + k))), q.1.2.2.2), (P.1, fd, fw), T, K, la, ma, ik)) (A 2) = some (arI G 6 (uI fs k (ma (100 * n + 48 + k)))) := hGet hA _ _ 2 (by decide)
                  have g3 : (HP G h A N Y ((F.1, (uI fb k (ma (100 * n + 54 + k))), (uI fs k (ma (100 * n + 48 + k))), q.1.2.2.2), (P.1, fd, fw), T, K, la, ma, ik)) (A 3) = some (arI G 6 (uI fb k (ma (100 * n + 54 + k)))) := hGet hA _ _ 3 (by decide)
                  have g4 : (HP G h A N Y ((F.1, (uI fb k (ma (100 * n + 54 + k))), (uI fs k (ma (100 * n + 48 + k))), q.1.2.2.2), (P.1, fd, fw), T, K, la, ma, ik)) (A 4) = some (arI G 6 fd) := hGet hA _ _ 4 (by decide)
                  have g5 : (HP G h A N Y ((F.1, (uI fb k (ma (100 * n + 54 + k))), (uI fs k (ma (100 * n + 48 + k))), q.1.2.2.2), (P.1, fd, fw), T, K, la, ma, ik)) (A 5) = some (arI G 6 (nf fw)) := hGet hA _ _ 5 (by decide)
                  have g6 : (HP G h A N Y ((F.1, (uI fb k (ma (100 * n + 54 + k))), (uI fs k (ma (100 * n + 48 + k))), q.1.2.2.2), (P.1, fd, fw), T, K, la, ma, ik)) (A 6) = some (arI G 12 (sgOf T)) := hGet hA _ _ 6 (by decide)
                  have g9 : (HP G h A N Y ((F.1, (uI fb k (ma (100 * n + 54 + k))), (uI fs k (ma (100 * n + 48 + k))), q.1.2.2.2), (P.1, fd, fw), T, K, la, ma, ik)) (A 9) = some (arI G 200 ma) := hGet hA _ _ 9 (by decide)
                  have g10 : (HP G h A N Y ((F.1, (uI fb k (ma (100 * n + 54 + k))), (uI fs k (ma (100 * n + 48 + k))), q.1.2.2.2), (P.1, fd, fw), T, K, la, ma, ik)) (A 10) = some (arZ G 2 ik) := hGet hA _ _ 10 (by decide)
                  refine EV.aload_n (i := 0) dX7_restore_99 rfl rfl ?_
                  refine EV.getf fl_X7_19 dX7_restore_100 g0 rfl ?_
                  refine EV.iload_n (i := 3) dX7_restore_103 rfl rfl ?_
                  refine EV.aload_n (i := 0) dX7_restore_104 rfl rfl ?_
                  refine EV.getf fl_X7_34 dX7_restore_105 g0 rfl ?_
                  refine EV.iload_n (i := 2) dX7_restore_108 rfl rfl ?_
                  refine EV.bipush dX7_restore_109 (by decide) ?_
                  refine EV.iadd dX7_restore_111 ?_
                  refine EV.iload_n (i := 3) dX7_restore_112 rfl rfl ?_
                  refine EV.iadd dX7_restore_113 ?_
                  refine EV.iald dX7_restore_114 g9 (100 * n + 60 + k) (by omega) (by omega) ?_
                  refine EV.iast dX7_restore_115 g4 (k) (rfl) (by omega) ?_
                  refine EV.hps (h' := HP G h A N Y ((F.1, (uI fb k (ma (100 * n + 54 + k))), (uI fs k (ma (100 * n + 48 + k))), q.1.2.2.2), (P.1, (uI fd k (ma (100 * n + 60 + k))), fw), T, K, la, ma, ik)) (mPd hA _) ?_
                  have g0 : (HP G h A N Y ((F.1, (uI fb k (ma (100 * n + 54 + k))), (uI fs k (ma (100 * n + 48 + k))), q.1.2.2.2), (P.1, (uI fd k (ma (100 * n + 60 + k))), fw), T, K, la, ma, ik)) (A 0) = some (obj 7 [.int (zI ((F.1 : Int))), .ref (A 1), .ref (A 2), .ref (A 3), .int (zI ((P.1 : Int))), .ref (A 4), .ref (A 5), .int (zI ((T.1 : Int))), .ref (A 6), .int (zI ((K.1 : Int))), .ref (A 7), .ref (A 8), .ref (A 9), .ref (A 10)]) := hGet hA _ _ 0 (by decide)
                  have g1 : (HP G h A N Y ((F.1, (uI fb k (ma (100 * n + 54 + k))), (uI fs k (ma (100 * n + 48 + k))), q.1.2.2.2), (P.1, (uI fd k (ma (100 * n + 60 + k))), fw), T, K, la, ma, ik)) (A 1) = some (arI G 48 q.1.2.2.2) := hGet hA _ _ 1 (by decide)
                  have g2 : (HP G h A N Y ((F.1, (uI fb k (ma (100 * n + 54 + k))), (uI fs k (ma (100 * n + 48 + k))), q.1.2.2.2), (P.1, (uI fd k (ma (100 * n + 60 + k))), fw), T, K, la, ma, ik)) (A 2) = some (arI G 6 (uI fs k (ma (100 * n + 48 + k)))) := hGet hA _ _ 2 (by decide)
                  have g3 : (HP G h A N Y ((F.1, (uI fb k (ma (100 * n + 54 + k))), (uI fs k (ma (100 * n + 48 + k))), q.1.2.2.2), (P.1, (uI fd k (ma (100 * n + 60 + k))), fw), T, K, la, ma, ik)) (A 3) = some (arI G 6 (uI fb k (ma (100 * n + 54 + k)))) := hGet hA _ _ 3 (by decide)
                  have g4 : (HP G h A N Y ((F.1, (uI fb k (ma (100 * n + 54 + k))), (uI fs k (ma (100 * n + 48 + k))), q.1.2.2.2), (P.1, (uI fd k (ma (100 * n + 60 + k))), fw), T, K, la, ma, ik)) (A 4) = some (arI G 6 (uI fd k (ma (100 * n + 60 + k)))) := hGet hA _ _ 4 (by decide)
                  have g5 : (HP G h A N Y ((F.1, (uI fb k (ma (100 * n + 54 + k))), (uI fs k (ma (100 * n + 48 + k))), q.1.2.2.2), (P.1, (uI fd k (ma (100 * n + 60 + k))), fw), T, K, la, ma, ik)) (A 5) = some (arI G 6 (nf fw)) := hGet hA _ _ 5 (by decide)
                  have g6 : (HP G h A N Y ((F.1, (uI fb k (ma (100 * n + 54 + k))), (uI fs k (ma (100 * n + 48 + k))), q.1.2.2.2), (P.1, (uI fd k (ma (100 * n + 60 + k))), fw), T, K, la, ma, ik)) (A 6) = some (arI G 12 (sgOf T)) := hGet hA _ _ 6 (by decide)
                  have g9 : (HP G h A N Y ((F.1, (uI fb k (ma (100 * n + 54 + k))), (uI fs k (ma (100 * n + 48 + k))), q.1.2.2.2), (P.1, (uI fd k (ma (100 * n + 60 + k))), fw), T, K, la, ma, ik)) (A 9) = some (arI G 200 ma) := hGet hA _ _ 9 (by decide)
                  have g10 : (HP G h A N Y ((F.1, (uI fb k (ma (100 * n + 54 + k))), (uI fs k (ma (100 * n + 48 + k))), q.1.2.2.2), (P.1, (uI fd k (ma (100 * n + 60 + k))), fw), T, K, la, ma, ik)) (A 10) = some (arZ G 2 ik) := hGet hA _ _ 10 (by decide)
                  refine EV.aload_n (i := 0) dX7_restore_116 rfl rfl ?_
                  refine EV.getf fl_X7_22 dX7_restore_117 g0 rfl ?_
                  refine EV.iload_n (i := 3) dX7_restore_120 rfl rfl ?_
                  refine EV.aload_n (i := 0) dX7_restore_121 rfl rfl ?_
                  refine EV.getf fl_X7_34 dX7_restore_122 g0 rfl ?_
                  refine EV.iload_n (i := 2) dX7_restore_125 rfl rfl ?_
                  refine EV.bipush dX7_restore_126 (by decide) ?_
                  refine EV.iadd dX7_restore_128 ?_
                  refine EV.iload_n (i := 3) dX7_restore_129 rfl rfl ?_
                  refine EV.iadd dX7_restore_130 ?_
                  refine EV.iald dX7_restore_131 g9 (100 * n + 66 + k) (by omega) (by omega) ?_
                  refine EV.top (y := zI ((q.2.1.2.2 k : Int))) (by rw [(he.2.1 k (by omega)).2.2.2]) ?_
                  refine EV.iast dX7_restore_132 g5 (k) (rfl) (by omega) ?_
                  refine EV.hps (h' := HP G h A N Y ((F.1, (uI fb k (ma (100 * n + 54 + k))), (uI fs k (ma (100 * n + 48 + k))), q.1.2.2.2), (P.1, (uI fd k (ma (100 * n + 60 + k))), (uN fw k (q.2.1.2.2 k))), T, K, la, ma, ik)) (by rw [nf_u]; exact mPw hA _) ?_
                  have g0 : (HP G h A N Y ((F.1, (uI fb k (ma (100 * n + 54 + k))), (uI fs k (ma (100 * n + 48 + k))), q.1.2.2.2), (P.1, (uI fd k (ma (100 * n + 60 + k))), (uN fw k (q.2.1.2.2 k))), T, K, la, ma, ik)) (A 0) = some (obj 7 [.int (zI ((F.1 : Int))), .ref (A 1), .ref (A 2), .ref (A 3), .int (zI ((P.1 : Int))), .ref (A 4), .ref (A 5), .int (zI ((T.1 : Int))), .ref (A 6), .int (zI ((K.1 : Int))), .ref (A 7), .ref (A 8), .ref (A 9), .ref (A 10)]) := hGet hA _ _ 0 (by decide)
                  have g1 : (HP G h A N Y ((F.1, (uI fb k (ma (100 * n + 54 + k))), (uI fs k (ma (100 * n + 48 + k))), q.1.2.2.2), (P.1, (uI fd k (ma (100 * n + 60 + k))), (uN fw k (q.2.1.2.2 k))), T, K, la, ma, ik)) (A 1) = some (arI G 48 q.1.2.2.2) := hGet hA _ _ 1 (by decide)
                  have g2 : (HP G h A N Y ((F.1, (uI fb k (ma (100 * n + 54 + k))), (uI fs k (ma (100 * n + 48 + k))), q.1.2.2.2), (P.1, (uI fd k (ma (100 * n + 60 + k))), (uN fw k (q.2.1.2.2 k))), T, K, la, ma, ik)) (A 2) = some (arI G 6 (uI fs k (ma (100 * n + 48 + k)))) := hGet hA _ _ 2 (by decide)
                  have g3 : (HP G h A N Y ((F.1, (uI fb k (ma (100 * n + 54 + k))), (uI fs k (ma (100 * n + 48 + k))), q.1.2.2.2), (P.1, (uI fd k (ma (100 * n + 60 + k))), (uN fw k (q.2.1.2.2 k))), T, K, la, ma, ik)) (A 3) = some (arI G 6 (uI fb k (ma (100 * n + 54 + k)))) := hGet hA _ _ 3 (by decide)
                  have g4 : (HP G h A N Y ((F.1, (uI fb k (ma (100 * n + 54 + k))), (uI fs k (ma (100 * n + 48 + k))), q.1.2.2.2), (P.1, (uI fd k (ma (100 * n + 60 + k))), (uN fw k (q.2.1.2.2 k))), T, K, la, ma, ik)) (A 4) = some (arI G 6 (uI fd k (ma (100 * n + 60 + k)))) := hGet hA _ _ 4 (by decide)
                  have g5 : (HP G h A N Y ((F.1, (uI fb k (ma (100 * n + 54 + k))), (uI fs k (ma (100 * n + 48 + k))), q.1.2.2.2), (P.1, (uI fd k (ma (100 * n + 60 + k))), (uN fw k (q.2.1.2.2 k))), T, K, la, ma, ik)) (A 5) = some (arI G 6 (nf (uN fw k (q.2.1.2.2 k)))) := hGet hA _ _ 5 (by decide)
                  have g6 : (HP G h A N Y ((F.1, (uI fb k (ma (100 * n + 54 + k))), (uI fs k (ma (100 * n + 48 + k))), q.1.2.2.2), (P.1, (uI fd k (ma (100 * n + 60 + k))), (uN fw k (q.2.1.2.2 k))), T, K, la, ma, ik)) (A 6) = some (arI G 12 (sgOf T)) := hGet hA _ _ 6 (by decide)
                  have g9 : (HP G h A N Y ((F.1, (uI fb k (ma (100 * n + 54 + k))), (uI fs k (ma (100 * n + 48 + k))), q.1.2.2.2), (P.1, (uI fd k (ma (100 * n + 60 + k))), (uN fw k (q.2.1.2.2 k))), T, K, la, ma, ik)) (A 9) = some (arI G 200 ma) := hGet hA _ _ 9 (by decide)
                  have g10 : (HP G h A N Y ((F.1, (uI fb k (ma (100 * n + 54 + k))), (uI fs k (ma (100 * n + 48 + k))), q.1.2.2.2), (P.1, (uI fd k (ma (100 * n + 60 + k))), (uN fw k (q.2.1.2.2 k))), T, K, la, ma, ik)) (A 10) = some (arZ G 2 ik) := hGet hA _ _ 10 (by decide)
                  refine EV.iinc (i := 3) (lv' := [some (.ref (A 0)), some (.int (zI ((n : Int)))), some (.int (zI ((100 * (n : Int))))), some (.int (zI ((k : Int) + 1)))]) dX7_restore_133 rfl (by decide) rfl ?_
                  refine EV.goto (t := 59) dX7_restore_136 (by decide) ?_
                  exact ih59 (k + 1) _ _ _ _ _ _ (by omega) (have hx := he.2.1 k (by omega); fun j hj => ⟨rs1 (fun j hj => (h2 j hj).1) hx.1 j hj, rs1 (fun j hj => (h2 j hj).2.1) hx.2.1 j hj, rs1 (fun j hj => (h2 j hj).2.2.1) hx.2.2.1 j hj, rs1n (fun j hj => (h2 j hj).2.2.2) rfl j hj⟩) (by omega) (rfl) (rfl)
            exact L59 _ 0 F.2.2.1 F.2.1 P.2.1 P.2.2 _ _ (by omega) (fun j hj => absurd hj (Nat.not_lt_zero _)) (Nat.lt_succ_self _) (rfl) (rfl)
          · skip
            refine EV.aload_n (i := 0) dX7_restore_37 rfl rfl ?_
            refine EV.getf fl_X7_7 dX7_restore_38 g0 rfl ?_
            refine EV.iload_n (i := 3) dX7_restore_41 rfl rfl ?_
            refine EV.aload_n (i := 0) dX7_restore_42 rfl rfl ?_
            refine EV.getf fl_X7_34 dX7_restore_43 g0 rfl ?_
            refine EV.iload_n (i := 2) dX7_restore_46 rfl rfl ?_
            refine EV.iload_n (i := 3) dX7_restore_47 rfl rfl ?_
            refine EV.iadd dX7_restore_48 ?_
            refine EV.iald dX7_restore_49 g9 (100 * n + k) (by omega) (by omega) ?_
            refine EV.iast dX7_restore_50 g1 (k) (rfl) (by omega) ?_
            refine EV.hps (h' := HP G h A N Y ((F.1, F.2.1, F.2.2.1, (uI fo k (ma (100 * n + k)))), P, T, K, la, ma, ik)) (mFO hA _) ?_
            have g0 : (HP G h A N Y ((F.1, F.2.1, F.2.2.1, (uI fo k (ma (100 * n + k)))), P, T, K, la, ma, ik)) (A 0) = some (obj 7 [.int (zI ((F.1 : Int))), .ref (A 1), .ref (A 2), .ref (A 3), .int (zI ((P.1 : Int))), .ref (A 4), .ref (A 5), .int (zI ((T.1 : Int))), .ref (A 6), .int (zI ((K.1 : Int))), .ref (A 7), .ref (A 8), .ref (A 9), .ref (A 10)]) := hGet hA _ _ 0 (by decide)
            have g1 : (HP G h A N Y ((F.1, F.2.1, F.2.2.1, (uI fo k (ma (100 * n + k)))), P, T, K, la, ma, ik)) (A 1) = some (arI G 48 (uI fo k (ma (100 * n + k)))) := hGet hA _ _ 1 (by decide)
            have g2 : (HP G h A N Y ((F.1, F.2.1, F.2.2.1, (uI fo k (ma (100 * n + k)))), P, T, K, la, ma, ik)) (A 2) = some (arI G 6 F.2.2.1) := hGet hA _ _ 2 (by decide)
            have g3 : (HP G h A N Y ((F.1, F.2.1, F.2.2.1, (uI fo k (ma (100 * n + k)))), P, T, K, la, ma, ik)) (A 3) = some (arI G 6 F.2.1) := hGet hA _ _ 3 (by decide)
            have g4 : (HP G h A N Y ((F.1, F.2.1, F.2.2.1, (uI fo k (ma (100 * n + k)))), P, T, K, la, ma, ik)) (A 4) = some (arI G 6 P.2.1) := hGet hA _ _ 4 (by decide)
            have g5 : (HP G h A N Y ((F.1, F.2.1, F.2.2.1, (uI fo k (ma (100 * n + k)))), P, T, K, la, ma, ik)) (A 5) = some (arI G 6 (nf P.2.2)) := hGet hA _ _ 5 (by decide)
            have g6 : (HP G h A N Y ((F.1, F.2.1, F.2.2.1, (uI fo k (ma (100 * n + k)))), P, T, K, la, ma, ik)) (A 6) = some (arI G 12 (sgOf T)) := hGet hA _ _ 6 (by decide)
            have g9 : (HP G h A N Y ((F.1, F.2.1, F.2.2.1, (uI fo k (ma (100 * n + k)))), P, T, K, la, ma, ik)) (A 9) = some (arI G 200 ma) := hGet hA _ _ 9 (by decide)
            have g10 : (HP G h A N Y ((F.1, F.2.1, F.2.2.1, (uI fo k (ma (100 * n + k)))), P, T, K, la, ma, ik)) (A 10) = some (arZ G 2 ik) := hGet hA _ _ 10 (by decide)
            refine EV.iinc (i := 3) (lv' := [some (.ref (A 0)), some (.int (zI ((n : Int)))), some (.int (zI ((100 * (n : Int))))), some (.int (zI ((k : Int) + 1)))]) dX7_restore_51 rfl (by decide) rfl ?_
            refine EV.goto (t := 31) dX7_restore_54 (by decide) ?_
            exact ih31 (k + 1) _ _ _ (by omega) (rs1 h1 (he.1 k (by omega))) (by omega) (rfl) (rfl)
      exact L31 _ 0 F.2.2.2 _ _ (by omega) (fun j hj => absurd hj (Nat.not_lt_zero _)) (Nat.lt_succ_self _) (rfl) (rfl)
    · skip
      have hqn : kq n = none := by rcases hik with h | h; exact h.2; omega
      refine EV.bipush dX7_restore_21 (by decide) ?_
      refine EV.iret rfl dX7_restore_23 ?_
      exact ⟨by simp [restR, c6, hqn], by simp [restL, c6, hqn]⟩
  · skip
    have c6r := of_nrg c6
    refine EV.bipush dX7_restore_9 (by decide) ?_
    refine EV.iret rfl dX7_restore_11 ?_
    exact ⟨by simp [restR, c6], by simp [restL, c6]⟩
end
