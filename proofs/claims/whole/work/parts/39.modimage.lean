/-- what the 87 ints from b on say -/
def encAt (M : Nat → Int) (b : Nat) (q : FK × PL × ST) : Prop :=
  (∀ j, j < 48 → M (b + j) = q.1.2.2.2 j) ∧ (∀ j, j < 6 → M (b + 48 + j) = q.1.2.2.1 j ∧ M (b + 54 + j) = q.1.2.1 j ∧ M (b + 60 + j) = q.2.1.2.1 j ∧ M (b + 66 + j) = (q.2.1.2.2 j : Int)) ∧ (∀ j, j < 12 → M (b + 72 + j) = sgOf q.2.2 j) ∧ M (b + 84) = (q.1.1 : Int) ∧ M (b + 85) = (q.2.1.1 : Int) ∧ M (b + 86) = (q.2.2.1 : Int)
/-- what the reference's images keep -/
def kqAt (M ik : Nat → Int) (kq : Nat → Option (FK × PL × ST)) : Prop := ∀ n, n < 2 → (kq n = none → ik n = 0) ∧ ∀ q, kq n = some q → ik n = 1 ∧ encAt M (100 * n) q
def offB (M M0 : Nat → Int) (b : Nat) : Prop := ∀ j, (j < b ∨ b + 100 ≤ j) → M j = M0 j
theorem offB.u {M M0 : Nat → Int} {b k : Nat} {v : Int} (h : offB M M0 b) (hk : b ≤ k ∧ k < b + 100) : offB (uI M k v) M0 b := fun j hj => by
  rw [uI_n _ _ (by omega)]; exact h j hj
theorem im1 {M g : Nat → Int} {b k : Nat} (h : ∀ j, j < k → M (b + j) = g j) : ∀ j, j < k + 1 → uI M (b + k) (g k) (b + j) = g j := fun j hj => by
  by_cases e : j = k
  · subst e; exact uI_s _ _ _
  · rw [uI_n _ _ (by omega)]; exact h j (by omega)
def qd (M : Nat → Int) (b k : Nat) (f1 f2 f3 f4 : Nat → Int) : Prop := ∀ j, j < k → M (b + 48 + j) = f1 j ∧ M (b + 54 + j) = f2 j ∧ M (b + 60 + j) = f3 j ∧ M (b + 66 + j) = f4 j
theorem im4 {M f1 f2 f3 f4 : Nat → Int} {b k : Nat} (hk : k < 6) (h : qd M b k f1 f2 f3 f4) : qd (uI (uI (uI (uI M (b + 48 + k) (f1 k)) (b + 54 + k) (f2 k)) (b + 60 + k) (f3 k)) (b + 66 + k) (f4 k)) b (k + 1) f1 f2 f3 f4 := fun j hj => by
  by_cases e : j = k
  · subst e
    refine ⟨?_, ?_, ?_, uI_s _ _ _⟩
    · rw [uI_n _ _ (by omega), uI_n _ _ (by omega), uI_n _ _ (by omega), uI_s]
    · rw [uI_n _ _ (by omega), uI_n _ _ (by omega), uI_s]
    · rw [uI_n _ _ (by omega), uI_s]
  · obtain ⟨a, b1, c, d⟩ := h j (by omega)
    refine ⟨?_, ?_, ?_, ?_⟩
    · rw [uI_n _ _ (by omega), uI_n _ _ (by omega), uI_n _ _ (by omega), uI_n _ _ (by omega)]; exact a
    · rw [uI_n _ _ (by omega), uI_n _ _ (by omega), uI_n _ _ (by omega), uI_n _ _ (by omega)]; exact b1
    · rw [uI_n _ _ (by omega), uI_n _ _ (by omega), uI_n _ _ (by omega), uI_n _ _ (by omega)]; exact c
    · rw [uI_n _ _ (by omega), uI_n _ _ (by omega), uI_n _ _ (by omega), uI_n _ _ (by omega)]; exact d
theorem kq_img {M Mo ik : Nat → Int} {kq : Nat → Option (FK × PL × ST)} {n : Nat} {q : FK × PL × ST} (hk : kqAt Mo ik kq) (hn : n < 2) (ho : offB M Mo (100 * n)) (he : encAt M (100 * n) q) : kqAt M (uI ik n 1) (fun j => if j = n then some q else kq j) := fun j hj => by
  by_cases e : j = n
  · subst e
    refine ⟨fun z => ?_, fun q' hq => ?_⟩
    · simp at z
    · simp at hq; subst hq; exact ⟨uI_s _ _ _, he⟩
  · refine ⟨fun z => ?_, fun q' hq => ?_⟩
    · simp [e] at z; rw [uI_n _ _ e]; exact (hk j hj).1 z
    · simp [e] at hq
      obtain ⟨h1, h2, h3, h4, h5, h6, h7⟩ := (hk j hj).2 q' hq
      have o : ∀ i, i < 100 → M (100 * j + i) = Mo (100 * j + i) := fun i hi => ho _ (by omega)
      refine ⟨by rw [uI_n _ _ e]; exact h1, fun i hi => by rw [o i (by omega)]; exact h2 i hi, fun i hi => ?_, fun i hi => by rw [Nat.add_assoc, o _ (by omega), ← Nat.add_assoc]; exact h4 i hi, by rw [o _ (by omega)]; exact h5, by rw [o _ (by omega)]; exact h6, by rw [o _ (by omega)]; exact h7⟩
      obtain ⟨a, b, c, d⟩ := h3 i hi
      refine ⟨?_, ?_, ?_, ?_⟩ <;> rw [Nat.add_assoc, o _ (by omega), ← Nat.add_assoc] <;> assumption
section
variable {G : GG} {l : Launch}
variable {h : Hp} {A : Nat → Nat} {N : Nat} {F : FK} {P : PL} {T : ST} {K : PD} {la ma ik : Nat → Int} {Y : CY}
set_option maxHeartbeats 4000000 in
set_option maxRecDepth 20000 in
theorem c_X7_image (d : Nat) (hA : inA A N) (hK : WFK K) (hW : WF F) (hP : WFP P) (hT : WFT T) {kq : Nat → Option (FK × PL × ST)} (hkq : kqAt ma ik kq) (z : Int) (hz : inR z) : CT G l mX7_image (d + 2) 0 0 [.ref (A 0), .int (zI (z))] (HP G h A N Y (F, P, T, K, la, ma, ik)) (fun o h' => o = some (.int (zI (imgR z))) ∧ ∃ M ik' : Nat → Int, kqAt M ik' (imgK kq (F, P, T) z) ∧ h' = HP G h A N Y (F, P, T, K, la, M, ik')) := by
  refine CT.of (by decide) (Nat.le_of_ble_eq_true rfl) (List.forall_mem_cons.mpr ⟨rfl, List.forall_mem_cons.mpr ⟨rfl, fun _ h => absurd h List.not_mem_nil⟩⟩) ?_
  refine EV.lvs (lv' := [some (.ref (A 0)), some (.int (zI (z))), none, none]) rfl ?_
  have g0 : (HP G h A N Y (F, P, T, K, la, ma, ik)) (A 0) = some (obj 7 [.int (zI ((F.1 : Int))), .ref (A 1), .ref (A 2), .ref (A 3), .int (zI ((P.1 : Int))), .ref (A 4), .ref (A 5), .int (zI ((T.1 : Int))), .ref (A 6), .int (zI ((K.1 : Int))), .ref (A 7), .ref (A 8), .ref (A 9), .ref (A 10)]) := hGet hA _ _ 0 (by decide)
  have g1 : (HP G h A N Y (F, P, T, K, la, ma, ik)) (A 1) = some (arI G 48 F.2.2.2) := hGet hA _ _ 1 (by decide)
  have g2 : (HP G h A N Y (F, P, T, K, la, ma, ik)) (A 2) = some (arI G 6 F.2.2.1) := hGet hA _ _ 2 (by decide)
  have g3 : (HP G h A N Y (F, P, T, K, la, ma, ik)) (A 3) = some (arI G 6 F.2.1) := hGet hA _ _ 3 (by decide)
  have g4 : (HP G h A N Y (F, P, T, K, la, ma, ik)) (A 4) = some (arI G 6 P.2.1) := hGet hA _ _ 4 (by decide)
  have g5 : (HP G h A N Y (F, P, T, K, la, ma, ik)) (A 5) = some (arI G 6 (nf P.2.2)) := hGet hA _ _ 5 (by decide)
  have g6 : (HP G h A N Y (F, P, T, K, la, ma, ik)) (A 6) = some (arI G 12 (sgOf T)) := hGet hA _ _ 6 (by decide)
  have g9 : (HP G h A N Y (F, P, T, K, la, ma, ik)) (A 9) = some (arI G 200 ma) := hGet hA _ _ 9 (by decide)
  have g10 : (HP G h A N Y (F, P, T, K, la, ma, ik)) (A 10) = some (arZ G 2 ik) := hGet hA _ _ 10 (by decide)
  have hK6 := hK.1
  have hP6 := hP.1
  have hT6 := hT.1
  have hth := hW.1
  have hsf : ∀ q, q < 6 → F.1.testBit q = true → F.1.testBit q = true := fun _ _ z => z
  have hM : ModAt G (HP G h A N Y (F, P, T, K, la, ma, ik)) (A 0) (fun i => A (i + 1)) F P T K la ma ik := hMod hA
  refine EV.iload_n (i := 1) dX7_image_0 rfl rfl ?_
  refine EV.iconst dX7_image_1 ?_
  refine EV.iconst dX7_image_2 ?_
  refine EV.callSr (M' := mX7_in) (as := [.int (zI (z)), .int (zI (0)), .int (zI (1))]) (rest := []) ml_X7_45 sm_X7_in co_X7_in dX7_image_3 (c_X7_in (d + 0) z 0 1 (by omega) (by omega) (by omega)) rfl rfl (Nat.le_of_ble_eq_true rfl) ?_
  refine EV.ifneB (t := 12) dX7_image_6 (by decide) (fun c6 => ?_) (fun c6 => ?_)
  · skip
    have c6r := of_rg c6
    obtain ⟨n, rfl⟩ : ∃ n : Nat, z = (n : Int) := ⟨z.toNat, by omega⟩
    refine EV.bipush dX7_image_12 (by decide) ?_
    refine EV.iload_n (i := 1) dX7_image_14 rfl rfl ?_
    refine EV.imul dX7_image_15 ?_
    refine EV.istore_n (i := 2) (lv' := [some (.ref (A 0)), some (.int (zI ((n : Int)))), some (.int (zI ((100 * (n : Int))))), none]) dX7_image_16 rfl (by decide) rfl ?_
    refine EV.iconst dX7_image_17 ?_
    refine EV.istore_n (i := 3) (lv' := [some (.ref (A 0)), some (.int (zI ((n : Int)))), some (.int (zI ((100 * (n : Int))))), some (.int (zI (0)))]) dX7_image_18 rfl (by decide) rfl ?_
    have L19 : ∀ (n19 : Nat) (k : Nat) (M : Nat → Int) (x3 : Int) (hh : Hp), (k ≤ 48) → (∀ j, j < k → M (100 * n + j) = F.2.2.2 j) → (offB M ma (100 * n)) → 48 - k < n19 → x3 = (k : Int) → hh = HP G h A N Y (F, P, T, K, la, M, ik) → EV G l mX7_image (d + 2) (fun o h' => o = some (.int (zI (imgR (n : Int)))) ∧ ∃ M ik' : Nat → Int, kqAt M ik' (imgK kq (F, P, T) (n : Int)) ∧ h' = HP G h A N Y (F, P, T, K, la, M, ik')) 19 [some (.ref (A 0)), some (.int (zI ((n : Int)))), some (.int (zI ((100 * (n : Int))))), some (.int (zI (x3)))] [] hh 0 0 := by
      intro n19
      induction n19 with
      | zero => intro _ _ _ _ _ _ _ hm; exact absurd hm (Nat.not_lt_zero _)
      | succ n19 ih19 =>
        intro k M x3 hh hk h1 ho hm19 e3 eh
        subst e3 eh
        have g0 : (HP G h A N Y (F, P, T, K, la, M, ik)) (A 0) = some (obj 7 [.int (zI ((F.1 : Int))), .ref (A 1), .ref (A 2), .ref (A 3), .int (zI ((P.1 : Int))), .ref (A 4), .ref (A 5), .int (zI ((T.1 : Int))), .ref (A 6), .int (zI ((K.1 : Int))), .ref (A 7), .ref (A 8), .ref (A 9), .ref (A 10)]) := hGet hA _ _ 0 (by decide)
        have g1 : (HP G h A N Y (F, P, T, K, la, M, ik)) (A 1) = some (arI G 48 F.2.2.2) := hGet hA _ _ 1 (by decide)
        have g2 : (HP G h A N Y (F, P, T, K, la, M, ik)) (A 2) = some (arI G 6 F.2.2.1) := hGet hA _ _ 2 (by decide)
        have g3 : (HP G h A N Y (F, P, T, K, la, M, ik)) (A 3) = some (arI G 6 F.2.1) := hGet hA _ _ 3 (by decide)
        have g4 : (HP G h A N Y (F, P, T, K, la, M, ik)) (A 4) = some (arI G 6 P.2.1) := hGet hA _ _ 4 (by decide)
        have g5 : (HP G h A N Y (F, P, T, K, la, M, ik)) (A 5) = some (arI G 6 (nf P.2.2)) := hGet hA _ _ 5 (by decide)
        have g6 : (HP G h A N Y (F, P, T, K, la, M, ik)) (A 6) = some (arI G 12 (sgOf T)) := hGet hA _ _ 6 (by decide)
        have g9 : (HP G h A N Y (F, P, T, K, la, M, ik)) (A 9) = some (arI G 200 M) := hGet hA _ _ 9 (by decide)
        have g10 : (HP G h A N Y (F, P, T, K, la, M, ik)) (A 10) = some (arZ G 2 ik) := hGet hA _ _ 10 (by decide)
        refine EV.iload_n (i := 3) dX7_image_19 rfl rfl ?_
        refine EV.bipush dX7_image_20 (by decide) ?_
        refine EV.icmp_ge (t := 45) dX7_image_22 (by decide) (by omega) (fun c22 => ?_) (fun c22 => ?_)
        · skip
          obtain rfl : k = 48 := by omega
          refine EV.iconst dX7_image_45 ?_
          refine EV.istore_n (i := 3) (lv' := [some (.ref (A 0)), some (.int (zI ((n : Int)))), some (.int (zI ((100 * (n : Int))))), some (.int (zI (0)))]) dX7_image_46 rfl (by decide) rfl ?_
          have L47 : ∀ (n47 : Nat) (k : Nat) (M1 : Nat → Int) (x3 : Int) (hh : Hp), (k ≤ 6) → (∀ j, j < 48 → M1 (100 * n + j) = F.2.2.2 j) → (qd M1 (100 * n) k F.2.2.1 F.2.1 P.2.1 (nf P.2.2)) → (offB M1 ma (100 * n)) → 6 - k < n47 → x3 = (k : Int) → hh = HP G h A N Y (F, P, T, K, la, M1, ik) → EV G l mX7_image (d + 2) (fun o h' => o = some (.int (zI (imgR (n : Int)))) ∧ ∃ M ik' : Nat → Int, kqAt M ik' (imgK kq (F, P, T) (n : Int)) ∧ h' = HP G h A N Y (F, P, T, K, la, M, ik')) 47 [some (.ref (A 0)), some (.int (zI ((n : Int)))), some (.int (zI ((100 * (n : Int))))), some (.int (zI (x3)))] [] hh 0 0 := by
            intro n47
            induction n47 with
            | zero => intro _ _ _ _ _ _ _ _ hm; exact absurd hm (Nat.not_lt_zero _)
            | succ n47 ih47 =>
              intro k M1 x3 hh hk h2 h3 ho2 hm47 e3 eh
              subst e3 eh
              have g0 : (HP G h A N Y (F, P, T, K, la, M1, ik)) (A 0) = some (obj 7 [.int (zI ((F.1 : Int))), .ref (A 1), .ref (A 2), .ref (A 3), .int (zI ((P.1 : Int))), .ref (A 4), .ref (A 5), .int (zI ((T.1 : Int))), .ref (A 6), .int (zI ((K.1 : Int))), .ref (A 7), .ref (A 8), .ref (A 9), .ref (A 10)]) := hGet hA _ _ 0 (by decide)
              have g1 : (HP G h A N Y (F, P, T, K, la, M1, ik)) (A 1) = some (arI G 48 F.2.2.2) := hGet hA _ _ 1 (by decide)
              have g2 : (HP G h A N Y (F, P, T, K, la, M1, ik)) (A 2) = some (arI G 6 F.2.2.1) := hGet hA _ _ 2 (by decide)
              have g3 : (HP G h A N Y (F, P, T, K, la, M1, ik)) (A 3) = some (arI G 6 F.2.1) := hGet hA _ _ 3 (by decide)
              have g4 : (HP G h A N Y (F, P, T, K, la, M1, ik)) (A 4) = some (arI G 6 P.2.1) := hGet hA _ _ 4 (by decide)
              have g5 : (HP G h A N Y (F, P, T, K, la, M1, ik)) (A 5) = some (arI G 6 (nf P.2.2)) := hGet hA _ _ 5 (by decide)
              have g6 : (HP G h A N Y (F, P, T, K, la, M1, ik)) (A 6) = some (arI G 12 (sgOf T)) := hGet hA _ _ 6 (by decide)
              have g9 : (HP G h A N Y (F, P, T, K, la, M1, ik)) (A 9) = some (arI G 200 M1) := hGet hA _ _ 9 (by decide)
              have g10 : (HP G h A N Y (F, P, T, K, la, M1, ik)) (A 10) = some (arZ G 2 ik) := hGet hA _ _ 10 (by decide)
              refine EV.iload_n (i := 3) dX7_image_47 rfl rfl ?_
              refine EV.bipush dX7_image_48 (by decide) ?_
              refine EV.icmp_ge (t := 127) dX7_image_50 (by decide) (by omega) (fun c50 => ?_) (fun c50 => ?_)
              · skip
                obtain rfl : k = 6 := by omega
                refine EV.iconst dX7_image_127 ?_
                refine EV.istore_n (i := 3) (lv' := [some (.ref (A 0)), some (.int (zI ((n : Int)))), some (.int (zI ((100 * (n : Int))))), some (.int (zI (0)))]) dX7_image_128 rfl (by decide) rfl ?_
                have L129 : ∀ (n129 : Nat) (k : Nat) (M2 : Nat → Int) (x3 : Int) (hh : Hp), (k ≤ 12) → (∀ j, j < 48 → M2 (100 * n + j) = F.2.2.2 j) → (qd M2 (100 * n) 6 F.2.2.1 F.2.1 P.2.1 (nf P.2.2)) → (∀ j, j < k → M2 (100 * n + 72 + j) = sgOf T j) → (offB M2 ma (100 * n)) → 12 - k < n129 → x3 = (k : Int) → hh = HP G h A N Y (F, P, T, K, la, M2, ik) → EV G l mX7_image (d + 2) (fun o h' => o = some (.int (zI (imgR (n : Int)))) ∧ ∃ M ik' : Nat → Int, kqAt M ik' (imgK kq (F, P, T) (n : Int)) ∧ h' = HP G h A N Y (F, P, T, K, la, M, ik')) 129 [some (.ref (A 0)), some (.int (zI ((n : Int)))), some (.int (zI ((100 * (n : Int))))), some (.int (zI (x3)))] [] hh 0 0 := by
                  intro n129
                  induction n129 with
                  | zero => intro _ _ _ _ _ _ _ _ _ hm; exact absurd hm (Nat.not_lt_zero _)
                  | succ n129 ih129 =>
                    intro k M2 x3 hh hk h4 h5 h6 ho3 hm129 e3 eh
                    subst e3 eh
                    have g0 : (HP G h A N Y (F, P, T, K, la, M2, ik)) (A 0) = some (obj 7 [.int (zI ((F.1 : Int))), .ref (A 1), .ref (A 2), .ref (A 3), .int (zI ((P.1 : Int))), .ref (A 4), .ref (A 5), .int (zI ((T.1 : Int))), .ref (A 6), .int (zI ((K.1 : Int))), .ref (A 7), .ref (A 8), .ref (A 9), .ref (A 10)]) := hGet hA _ _ 0 (by decide)
                    have g1 : (HP G h A N Y (F, P, T, K, la, M2, ik)) (A 1) = some (arI G 48 F.2.2.2) := hGet hA _ _ 1 (by decide)
                    have g2 : (HP G h A N Y (F, P, T, K, la, M2, ik)) (A 2) = some (arI G 6 F.2.2.1) := hGet hA _ _ 2 (by decide)
                    have g3 : (HP G h A N Y (F, P, T, K, la, M2, ik)) (A 3) = some (arI G 6 F.2.1) := hGet hA _ _ 3 (by decide)
                    have g4 : (HP G h A N Y (F, P, T, K, la, M2, ik)) (A 4) = some (arI G 6 P.2.1) := hGet hA _ _ 4 (by decide)
                    have g5 : (HP G h A N Y (F, P, T, K, la, M2, ik)) (A 5) = some (arI G 6 (nf P.2.2)) := hGet hA _ _ 5 (by decide)
                    have g6 : (HP G h A N Y (F, P, T, K, la, M2, ik)) (A 6) = some (arI G 12 (sgOf T)) := hGet hA _ _ 6 (by decide)
                    have g9 : (HP G h A N Y (F, P, T, K, la, M2, ik)) (A 9) = some (arI G 200 M2) := hGet hA _ _ 9 (by decide)
                    have g10 : (HP G h A N Y (F, P, T, K, la, M2, ik)) (A 10) = some (arZ G 2 ik) := hGet hA _ _ 10 (by decide)
                    refine EV.iload_n (i := 3) dX7_image_129 rfl rfl ?_
                    refine EV.bipush dX7_image_130 (by decide) ?_
                    refine EV.icmp_ge (t := 158) dX7_image_132 (by decide) (by omega) (fun c132 => ?_) (fun c132 => ?_)
                    · skip
                      obtain rfl : k = 12 := by omega
                      refine EV.aload_n (i := 0) dX7_image_158 rfl rfl ?_
                      refine EV.getf fl_X7_34 dX7_image_159 g0 rfl ?_
                      refine EV.iload_n (i := 2) dX7_image_162 rfl rfl ?_
                      refine EV.bipush dX7_image_163 (by decide) ?_
                      refine EV.iadd dX7_image_165 ?_
                      refine EV.aload_n (i := 0) dX7_image_166 rfl rfl ?_
                      refine EV.getf fl_X7_41 dX7_image_167 g0 rfl ?_
                      refine EV.iast dX7_image_170 g9 (100 * n + 84) (by omega) (by omega) ?_
                      refine EV.hps (h' := HP G h A N Y (F, P, T, K, la, (uI M2 (100 * n + 84) ((F.1 : Int))), ik)) (mma hA _) ?_
                      have g0 : (HP G h A N Y (F, P, T, K, la, (uI M2 (100 * n + 84) ((F.1 : Int))), ik)) (A 0) = some (obj 7 [.int (zI ((F.1 : Int))), .ref (A 1), .ref (A 2), .ref (A 3), .int (zI ((P.1 : Int))), .ref (A 4), .ref (A 5), .int (zI ((T.1 : Int))), .ref (A 6), .int (zI ((K.1 : Int))), .ref (A 7), .ref (A 8), .ref (A 9), .ref (A 10)]) := hGet hA _ _ 0 (by decide)
                      have g1 : (HP G h A N Y (F, P, T, K, la, (uI M2 (100 * n + 84) ((F.1 : Int))), ik)) (A 1) = some (arI G 48 F.2.2.2) := hGet hA _ _ 1 (by decide)
                      have g2 : (HP G h A N Y (F, P, T, K, la, (uI M2 (100 * n + 84) ((F.1 : Int))), ik)) (A 2) = some (arI G 6 F.2.2.1) := hGet hA _ _ 2 (by decide)
                      have g3 : (HP G h A N Y (F, P, T, K, la, (uI M2 (100 * n + 84) ((F.1 : Int))), ik)) (A 3) = some (arI G 6 F.2.1) := hGet hA _ _ 3 (by decide)
                      have g4 : (HP G h A N Y (F, P, T, K, la, (uI M2 (100 * n + 84) ((F.1 : Int))), ik)) (A 4) = some (arI G 6 P.2.1) := hGet hA _ _ 4 (by decide)
                      have g5 : (HP G h A N Y (F, P, T, K, la, (uI M2 (100 * n + 84) ((F.1 : Int))), ik)) (A 5) = some (arI G 6 (nf P.2.2)) := hGet hA _ _ 5 (by decide)
                      have g6 : (HP G h A N Y (F, P, T, K, la, (uI M2 (100 * n + 84) ((F.1 : Int))), ik)) (A 6) = some (arI G 12 (sgOf T)) := hGet hA _ _ 6 (by decide)
                      have g9 : (HP G h A N Y (F, P, T, K, la, (uI M2 (100 * n + 84) ((F.1 : Int))), ik)) (A 9) = some (arI G 200 (uI M2 (100 * n + 84) ((F.1 : Int)))) := hGet hA _ _ 9 (by decide)
                      have g10 : (HP G h A N Y (F, P, T, K, la, (uI M2 (100 * n + 84) ((F.1 : Int))), ik)) (A 10) = some (arZ G 2 ik) := hGet hA _ _ 10 (by decide)
                      refine EV.aload_n (i := 0) dX7_image_171 rfl rfl ?_
                      refine EV.getf fl_X7_34 dX7_image_172 g0 rfl ?_
                      refine EV.iload_n (i := 2) dX7_image_175 rfl rfl ?_
                      refine EV.bipush dX7_image_176 (by decide) ?_
                      refine EV.iadd dX7_image_178 ?_
                      refine EV.aload_n (i := 0) dX7_image_179 rfl rfl ?_
                      refine EV.getf fl_X7_74 dX7_image_180 g0 rfl ?_
                      refine EV.iast dX7_image_183 g9 (100 * n + 85) (by omega) (by omega) ?_
                      refine EV.hps (h' := HP G h A N Y (F, P, T, K, la, (uI (uI M2 (100 * n + 84) ((F.1 : Int))) (100 * n + 85) ((P.1 : Int))), ik)) (mma hA _) ?_
                      have g0 : (HP G h A N Y (F, P, T, K, la, (uI (uI M2 (100 * n + 84) ((F.1 : Int))) (100 * n + 85) ((P.1 : Int))), ik)) (A 0) = some (obj 7 [.int (zI ((F.1 : Int))), .ref (A 1), .ref (A 2), .ref (A 3), .int (zI ((P.1 : Int))), .ref (A 4), .ref (A 5), .int (zI ((T.1 : Int))), .ref (A 6), .int (zI ((K.1 : Int))), .ref (A 7), .ref (A 8), .ref (A 9), .ref (A 10)]) := hGet hA _ _ 0 (by decide)
                      have g1 : (HP G h A N Y (F, P, T, K, la, (uI (uI M2 (100 * n + 84) ((F.1 : Int))) (100 * n + 85) ((P.1 : Int))), ik)) (A 1) = some (arI G 48 F.2.2.2) := hGet hA _ _ 1 (by decide)
                      have g2 : (HP G h A N Y (F, P, T, K, la, (uI (uI M2 (100 * n + 84) ((F.1 : Int))) (100 * n + 85) ((P.1 : Int))), ik)) (A 2) = some (arI G 6 F.2.2.1) := hGet hA _ _ 2 (by decide)
                      have g3 : (HP G h A N Y (F, P, T, K, la, (uI (uI M2 (100 * n + 84) ((F.1 : Int))) (100 * n + 85) ((P.1 : Int))), ik)) (A 3) = some (arI G 6 F.2.1) := hGet hA _ _ 3 (by decide)
                      have g4 : (HP G h A N Y (F, P, T, K, la, (uI (uI M2 (100 * n + 84) ((F.1 : Int))) (100 * n + 85) ((P.1 : Int))), ik)) (A 4) = some (arI G 6 P.2.1) := hGet hA _ _ 4 (by decide)
                      have g5 : (HP G h A N Y (F, P, T, K, la, (uI (uI M2 (100 * n + 84) ((F.1 : Int))) (100 * n + 85) ((P.1 : Int))), ik)) (A 5) = some (arI G 6 (nf P.2.2)) := hGet hA _ _ 5 (by decide)
                      have g6 : (HP G h A N Y (F, P, T, K, la, (uI (uI M2 (100 * n + 84) ((F.1 : Int))) (100 * n + 85) ((P.1 : Int))), ik)) (A 6) = some (arI G 12 (sgOf T)) := hGet hA _ _ 6 (by decide)
                      have g9 : (HP G h A N Y (F, P, T, K, la, (uI (uI M2 (100 * n + 84) ((F.1 : Int))) (100 * n + 85) ((P.1 : Int))), ik)) (A 9) = some (arI G 200 (uI (uI M2 (100 * n + 84) ((F.1 : Int))) (100 * n + 85) ((P.1 : Int)))) := hGet hA _ _ 9 (by decide)
                      have g10 : (HP G h A N Y (F, P, T, K, la, (uI (uI M2 (100 * n + 84) ((F.1 : Int))) (100 * n + 85) ((P.1 : Int))), ik)) (A 10) = some (arZ G 2 ik) := hGet hA _ _ 10 (by decide)
                      refine EV.aload_n (i := 0) dX7_image_184 rfl rfl ?_
                      refine EV.getf fl_X7_34 dX7_image_185 g0 rfl ?_
                      refine EV.iload_n (i := 2) dX7_image_188 rfl rfl ?_
                      refine EV.bipush dX7_image_189 (by decide) ?_
                      refine EV.iadd dX7_image_191 ?_
                      refine EV.aload_n (i := 0) dX7_image_192 rfl rfl ?_
                      refine EV.getf fl_X7_128 dX7_image_193 g0 rfl ?_
                      refine EV.iast dX7_image_196 g9 (100 * n + 86) (by omega) (by omega) ?_
                      refine EV.hps (h' := HP G h A N Y (F, P, T, K, la, (uI (uI (uI M2 (100 * n + 84) ((F.1 : Int))) (100 * n + 85) ((P.1 : Int))) (100 * n + 86) ((T.1 : Int))), ik)) (mma hA _) ?_
                      have g0 : (HP G h A N Y (F, P, T, K, la, (uI (uI (uI M2 (100 * n + 84) ((F.1 : Int))) (100 * n + 85) ((P.1 : Int))) (100 * n + 86) ((T.1 : Int))), ik)) (A 0) = some (obj 7 [.int (zI ((F.1 : Int))), .ref (A 1), .ref (A 2), .ref (A 3), .int (zI ((P.1 : Int))), .ref (A 4), .ref (A 5), .int (zI ((T.1 : Int))), .ref (A 6), .int (zI ((K.1 : Int))), .ref (A 7), .ref (A 8), .ref (A 9), .ref (A 10)]) := hGet hA _ _ 0 (by decide)
                      have g1 : (HP G h A N Y (F, P, T, K, la, (uI (uI (uI M2 (100 * n + 84) ((F.1 : Int))) (100 * n + 85) ((P.1 : Int))) (100 * n + 86) ((T.1 : Int))), ik)) (A 1) = some (arI G 48 F.2.2.2) := hGet hA _ _ 1 (by decide)
                      have g2 : (HP G h A N Y (F, P, T, K, la, (uI (uI (uI M2 (100 * n + 84) ((F.1 : Int))) (100 * n + 85) ((P.1 : Int))) (100 * n + 86) ((T.1 : Int))), ik)) (A 2) = some (arI G 6 F.2.2.1) := hGet hA _ _ 2 (by decide)
                      have g3 : (HP G h A N Y (F, P, T, K, la, (uI (uI (uI M2 (100 * n + 84) ((F.1 : Int))) (100 * n + 85) ((P.1 : Int))) (100 * n + 86) ((T.1 : Int))), ik)) (A 3) = some (arI G 6 F.2.1) := hGet hA _ _ 3 (by decide)
                      have g4 : (HP G h A N Y (F, P, T, K, la, (uI (uI (uI M2 (100 * n + 84) ((F.1 : Int))) (100 * n + 85) ((P.1 : Int))) (100 * n + 86) ((T.1 : Int))), ik)) (A 4) = some (arI G 6 P.2.1) := hGet hA _ _ 4 (by decide)
                      have g5 : (HP G h A N Y (F, P, T, K, la, (uI (uI (uI M2 (100 * n + 84) ((F.1 : Int))) (100 * n + 85) ((P.1 : Int))) (100 * n + 86) ((T.1 : Int))), ik)) (A 5) = some (arI G 6 (nf P.2.2)) := hGet hA _ _ 5 (by decide)
                      have g6 : (HP G h A N Y (F, P, T, K, la, (uI (uI (uI M2 (100 * n + 84) ((F.1 : Int))) (100 * n + 85) ((P.1 : Int))) (100 * n + 86) ((T.1 : Int))), ik)) (A 6) = some (arI G 12 (sgOf T)) := hGet hA _ _ 6 (by decide)
                      have g9 : (HP G h A N Y (F, P, T, K, la, (uI (uI (uI M2 (100 * n + 84) ((F.1 : Int))) (100 * n + 85) ((P.1 : Int))) (100 * n + 86) ((T.1 : Int))), ik)) (A 9) = some (arI G 200 (uI (uI (uI M2 (100 * n + 84) ((F.1 : Int))) (100 * n + 85) ((P.1 : Int))) (100 * n + 86) ((T.1 : Int)))) := hGet hA _ _ 9 (by decide)
                      have g10 : (HP G h A N Y (F, P, T, K, la, (uI (uI (uI M2 (100 * n + 84) ((F.1 : Int))) (100 * n + 85) ((P.1 : Int))) (100 * n + 86) ((T.1 : Int))), ik)) (A 10) = some (arZ G 2 ik) := hGet hA _ _ 10 (by decide)
                      refine EV.aload_n (i := 0) dX7_image_197 rfl rfl ?_
                      refine EV.getf fl_X7_37 dX7_image_198 g0 rfl ?_
                      refine EV.iload_n (i := 1) dX7_image_201 rfl rfl ?_
                      refine EV.iconst dX7_image_202 ?_
                      refine EV.zast dX7_image_203 g10 (by decide) (n) (rfl) (by omega) ?_
                      refine EV.hps (h' := HP G h A N Y (F, P, T, K, la, (uI (uI (uI M2 (100 * n + 84) ((F.1 : Int))) (100 * n + 85) ((P.1 : Int))) (100 * n + 86) ((T.1 : Int))), (uI ik n 1))) (mik hA _) ?_
                      have g0 : (HP G h A N Y (F, P, T, K, la, (uI (uI (uI M2 (100 * n + 84) ((F.1 : Int))) (100 * n + 85) ((P.1 : Int))) (100 * n + 86) ((T.1 : Int))), (uI ik n 1))) (A 0) = some (obj 7 [.int (zI ((F.1 : Int))), .ref (A 1), .ref (A 2), .ref (A 3), .int (zI ((P.1 : Int))), .ref (A 4), .ref (A 5), .int (zI ((T.1 : Int))), .ref (A 6), .int (zI ((K.1 : Int))), .ref (A 7), .ref (A 8), .ref (A 9), .ref (A 10)]) := hGet hA _ _ 0 (by decide)
                      have g1 : (HP G h A N Y (F, P, T, K, la, (uI (uI (uI M2 (100 * n + 84) ((F.1 : Int))) (100 * n + 85) ((P.1 : Int))) (100 * n + 86) ((T.1 : Int))), (uI ik n 1))) (A 1) = some (arI G 48 F.2.2.2) := hGet hA _ _ 1 (by decide)
                      have g2 : (HP G h A N Y (F, P, T, K, la, (uI (uI (uI M2 (100 * n + 84) ((F.1 : Int))) (100 * n + 85) ((P.1 : Int))) (100 * n + 86) ((T.1 : Int))), (uI ik n 1))) (A 2) = some (arI G 6 F.2.2.1) := hGet hA _ _ 2 (by decide)
                      have g3 : (HP G h A N Y (F, P, T, K, la, (uI (uI (uI M2 (100 * n + 84) ((F.1 : Int))) (100 * n + 85) ((P.1 : Int))) (100 * n + 86) ((T.1 : Int))), (uI ik n 1))) (A 3) = some (arI G 6 F.2.1) := hGet hA _ _ 3 (by decide)
                      have g4 : (HP G h A N Y (F, P, T, K, la, (uI (uI (uI M2 (100 * n + 84) ((F.1 : Int))) (100 * n + 85) ((P.1 : Int))) (100 * n + 86) ((T.1 : Int))), (uI ik n 1))) (A 4) = some (arI G 6 P.2.1) := hGet hA _ _ 4 (by decide)
                      have g5 : (HP G h A N Y (F, P, T, K, la, (uI (uI (uI M2 (100 * n + 84) ((F.1 : Int))) (100 * n + 85) ((P.1 : Int))) (100 * n + 86) ((T.1 : Int))), (uI ik n 1))) (A 5) = some (arI G 6 (nf P.2.2)) := hGet hA _ _ 5 (by decide)
                      have g6 : (HP G h A N Y (F, P, T, K, la, (uI (uI (uI M2 (100 * n + 84) ((F.1 : Int))) (100 * n + 85) ((P.1 : Int))) (100 * n + 86) ((T.1 : Int))), (uI ik n 1))) (A 6) = some (arI G 12 (sgOf T)) := hGet hA _ _ 6 (by decide)
                      have g9 : (HP G h A N Y (F, P, T, K, la, (uI (uI (uI M2 (100 * n + 84) ((F.1 : Int))) (100 * n + 85) ((P.1 : Int))) (100 * n + 86) ((T.1 : Int))), (uI ik n 1))) (A 9) = some (arI G 200 (uI (uI (uI M2 (100 * n + 84) ((F.1 : Int))) (100 * n + 85) ((P.1 : Int))) (100 * n + 86) ((T.1 : Int)))) := hGet hA _ _ 9 (by decide)
                      have g10 : (HP G h A N Y (F, P, T, K, la, (uI (uI (uI M2 (100 * n + 84) ((F.1 : Int))) (100 * n + 85) ((P.1 : Int))) (100 * n + 86) ((T.1 : Int))), (uI ik n 1))) (A 10) = some (arZ G 2 (uI ik n 1)) := hGet hA _ _ 10 (by decide)
                      refine EV.iconst dX7_image_204 ?_
                      refine EV.iret rfl dX7_image_205 ?_
                      refine ⟨by simp [imgR, c6], _, _, ?_, rfl⟩
                      have hn2 : n < 2 := by omega
                      rw [show imgK kq (F, P, T) (n : Int) = fun j => if j = n then some (F, P, T) else kq j by simp [imgK, c6]]
                      refine kq_img hkq hn2 (((ho3.u (by omega)).u (by omega)).u (by omega)) ⟨fun j hj => ?_, fun j hj => ?_, fun j hj => ?_, ?_, ?_, uI_s _ _ _⟩
                      · rw [uI_n _ _ (by omega), uI_n _ _ (by omega), uI_n _ _ (by omega)]; exact h4 j hj
                      · rw [uI_n _ _ (by omega), uI_n _ _ (by omega), uI_n _ _ (by omega), uI_n _ _ (by omega), uI_n _ _ (by omega), uI_n _ _ (by omega), uI_n _ _ (by omega), uI_n _ _ (by omega), uI_n _ _ (by omega), uI_n _ _ (by omega), uI_n _ _ (by omega), uI_n _ _ (by omega)]; exact h5 j hj
                      · rw [uI_n _ _ (by omega), uI_n _ _ (by omega), uI_n _ _ (by omega)]; exact h6 j hj
                      · rw [uI_n _ _ (by omega), uI_n _ _ (by omega)]; exact uI_s _ _ _
                      · rw [uI_n _ _ (by omega)]; exact uI_s _ _ _
                    · skip
                      refine EV.aload_n (i := 0) dX7_image_135 rfl rfl ?_
                      refine EV.getf fl_X7_34 dX7_image_136 g0 rfl ?_
                      refine EV.iload_n (i := 2) dX7_image_139 rfl rfl ?_
                      refine EV.bipush dX7_image_140 (by decide) ?_
                      refine EV.iadd dX7_image_142 ?_
                      refine EV.iload_n (i := 3) dX7_image_143 rfl rfl ?_
                      refine EV.iadd dX7_image_144 ?_
                      refine EV.aload_n (i := 0) dX7_image_145 rfl rfl ?_
                      refine EV.getf fl_X7_25 dX7_image_146 g0 rfl ?_
                      refine EV.iload_n (i := 3) dX7_image_149 rfl rfl ?_
                      refine EV.iald dX7_image_150 g6 (k) (rfl) (by omega) ?_
                      refine EV.iast dX7_image_151 g9 (100 * n + 72 + k) (by omega) (by omega) ?_
                      refine EV.hps (h' := HP G h A N Y (F, P, T, K, la, (uI M2 (100 * n + 72 + k) (sgOf T k)), ik)) (mma hA _) ?_
                      have g0 : (HP G h A N Y (F, P, T, K, la, (uI M2 (100 * n + 72 + k) (sgOf T k)), ik)) (A 0) = some (obj 7 [.int (zI ((F.1 : Int))), .ref (A 1), .ref (A 2), .ref (A 3), .int (zI ((P.1 : Int))), .ref (A 4), .ref (A 5), .int (zI ((T.1 : Int))), .ref (A 6), .int (zI ((K.1 : Int))), .ref (A 7), .ref (A 8), .ref (A 9), .ref (A 10)]) := hGet hA _ _ 0 (by decide)
                      have g1 : (HP G h A N Y (F, P, T, K, la, (uI M2 (100 * n + 72 + k) (sgOf T k)), ik)) (A 1) = some (arI G 48 F.2.2.2) := hGet hA _ _ 1 (by decide)
                      have g2 : (HP G h A N Y (F, P, T, K, la, (uI M2 (100 * n + 72 + k) (sgOf T k)), ik)) (A 2) = some (arI G 6 F.2.2.1) := hGet hA _ _ 2 (by decide)
                      have g3 : (HP G h A N Y (F, P, T, K, la, (uI M2 (100 * n + 72 + k) (sgOf T k)), ik)) (A 3) = some (arI G 6 F.2.1) := hGet hA _ _ 3 (by decide)
                      have g4 : (HP G h A N Y (F, P, T, K, la, (uI M2 (100 * n + 72 + k) (sgOf T k)), ik)) (A 4) = some (arI G 6 P.2.1) := hGet hA _ _ 4 (by decide)
                      have g5 : (HP G h A N Y (F, P, T, K, la, (uI M2 (100 * n + 72 + k) (sgOf T k)), ik)) (A 5) = some (arI G 6 (nf P.2.2)) := hGet hA _ _ 5 (by decide)
                      have g6 : (HP G h A N Y (F, P, T, K, la, (uI M2 (100 * n + 72 + k) (sgOf T k)), ik)) (A 6) = some (arI G 12 (sgOf T)) := hGet hA _ _ 6 (by decide)
                      have g9 : (HP G h A N Y (F, P, T, K, la, (uI M2 (100 * n + 72 + k) (sgOf T k)), ik)) (A 9) = some (arI G 200 (uI M2 (100 * n + 72 + k) (sgOf T k))) := hGet hA _ _ 9 (by decide)
                      have g10 : (HP G h A N Y (F, P, T, K, la, (uI M2 (100 * n + 72 + k) (sgOf T k)), ik)) (A 10) = some (arZ G 2 ik) := hGet hA _ _ 10 (by decide)
                      refine EV.iinc (i := 3) (lv' := [some (.ref (A 0)), some (.int (zI ((n : Int)))), some (.int (zI ((100 * (n : Int))))), some (.int (zI ((k : Int) + 1)))]) dX7_image_152 rfl (by decide) rfl ?_
                      refine EV.goto (t := 129) dX7_image_155 (by decide) ?_
                      exact ih129 (k + 1) _ _ _ (by omega) (fun j hj => by rw [uI_n _ _ (by omega)]; exact h4 j hj) (fun j hj => by rw [uI_n _ _ (by omega), uI_n _ _ (by omega), uI_n _ _ (by omega), uI_n _ _ (by omega)]; exact h5 j hj) (im1 h6) (ho3.u (by omega)) (by omega) (rfl) (rfl)
                exact L129 _ 0 M1 _ _ (by omega) (h2) (h3) (fun j hj => absurd hj (Nat.not_lt_zero _)) (ho2) (Nat.lt_succ_self _) (rfl) (rfl)
              · skip
                refine EV.aload_n (i := 0) dX7_image_53 rfl rfl ?_
                refine EV.getf fl_X7_34 dX7_image_54 g0 rfl ?_
                refine EV.iload_n (i := 2) dX7_image_57 rfl rfl ?_
                refine EV.bipush dX7_image_58 (by decide) ?_
                refine EV.iadd dX7_image_60 ?_
                refine EV.iload_n (i := 3) dX7_image_61 rfl rfl ?_
                refine EV.iadd dX7_image_62 ?_
                refine EV.aload_n (i := 0) dX7_image_63 rfl rfl ?_
                refine EV.getf fl_X7_13 dX7_image_64 g0 rfl ?_
                refine EV.iload_n (i := 3) dX7_image_67 rfl rfl ?_
                refine EV.iald dX7_image_68 g2 (k) (rfl) (by omega) ?_
                refine EV.iast dX7_image_69 g9 (100 * n + 48 + k) (by omega) (by omega) ?_
                refine EV.hps (h' := HP G h A N Y (F, P, T, K, la, (uI M1 (100 * n + 48 + k) (F.2.2.1 k)), ik)) (mma hA _) ?_
                have g0 : (HP G h A N Y (F, P, T, K, la, (uI M1 (100 * n + 48 + k) (F.2.2.1 k)), ik)) (A 0) = some (obj 7 [.int (zI ((F.1 : Int))), .ref (A 1), .ref (A 2), .ref (A 3), .int (zI ((P.1 : Int))), .ref (A 4), .ref (A 5), .int (zI ((T.1 : Int))), .ref (A 6), .int (zI ((K.1 : Int))), .ref (A 7), .ref (A 8), .ref (A 9), .ref (A 10)]) := hGet hA _ _ 0 (by decide)
                have g1 : (HP G h A N Y (F, P, T, K, la, (uI M1 (100 * n + 48 + k) (F.2.2.1 k)), ik)) (A 1) = some (arI G 48 F.2.2.2) := hGet hA _ _ 1 (by decide)
                have g2 : (HP G h A N Y (F, P, T, K, la, (uI M1 (100 * n + 48 + k) (F.2.2.1 k)), ik)) (A 2) = some (arI G 6 F.2.2.1) := hGet hA _ _ 2 (by decide)
                have g3 : (HP G h A N Y (F, P, T, K, la, (uI M1 (100 * n + 48 + k) (F.2.2.1 k)), ik)) (A 3) = some (arI G 6 F.2.1) := hGet hA _ _ 3 (by decide)
                have g4 : (HP G h A N Y (F, P, T, K, la, (uI M1 (100 * n + 48 + k) (F.2.2.1 k)), ik)) (A 4) = some (arI G 6 P.2.1) := hGet hA _ _ 4 (by decide)
                have g5 : (HP G h A N Y (F, P, T, K, la, (uI M1 (100 * n + 48 + k) (F.2.2.1 k)), ik)) (A 5) = some (arI G 6 (nf P.2.2)) := hGet hA _ _ 5 (by decide)
                have g6 : (HP G h A N Y (F, P, T, K, la, (uI M1 (100 * n + 48 + k) (F.2.2.1 k)), ik)) (A 6) = some (arI G 12 (sgOf T)) := hGet hA _ _ 6 (by decide)
                have g9 : (HP G h A N Y (F, P, T, K, la, (uI M1 (100 * n + 48 + k) (F.2.2.1 k)), ik)) (A 9) = some (arI G 200 (uI M1 (100 * n + 48 + k) (F.2.2.1 k))) := hGet hA _ _ 9 (by decide)
                have g10 : (HP G h A N Y (F, P, T, K, la, (uI M1 (100 * n + 48 + k) (F.2.2.1 k)), ik)) (A 10) = some (arZ G 2 ik) := hGet hA _ _ 10 (by decide)
                refine EV.aload_n (i := 0) dX7_image_70 rfl rfl ?_
                refine EV.getf fl_X7_34 dX7_image_71 g0 rfl ?_
                refine EV.iload_n (i := 2) dX7_image_74 rfl rfl ?_
                refine EV.bipush dX7_image_75 (by decide) ?_
                refine EV.iadd dX7_image_77 ?_
                refine EV.iload_n (i := 3) dX7_image_78 rfl rfl ?_
                refine EV.iadd dX7_image_79 ?_
                refine EV.aload_n (i := 0) dX7_image_80 rfl rfl ?_
                refine EV.getf fl_X7_16 dX7_image_81 g0 rfl ?_
                refine EV.iload_n (i := 3) dX7_image_84 rfl rfl ?_
                refine EV.iald dX7_image_85 g3 (k) (rfl) (by omega) ?_
                refine EV.iast dX7_image_86 g9 (100 * n + 54 + k) (by omega) (by omega) ?_
                refine EV.hps (h' := HP G h A N Y (F, P, T, K, la, (uI (uI M1 (100 * n + 48 + k) (F.2.2.1 k)) (100 * n + 54 + k) (F.2.1 k)), ik)) (mma hA _) ?_
                have g0 : (HP G h A N Y (F, P, T, K, la, (uI (uI M1 (100 * n + 48 + k) (F.2.2.1 k)) (100 * n + 54 + k) (F.2.1 k)), ik)) (A 0) = some (obj 7 [.int (zI ((F.1 : Int))), .ref (A 1), .ref (A 2), .ref (A 3), .int (zI ((P.1 : Int))), .ref (A 4), .ref (A 5), .int (zI ((T.1 : Int))), .ref (A 6), .int (zI ((K.1 : Int))), .ref (A 7), .ref (A 8), .ref (A 9), .ref (A 10)]) := hGet hA _ _ 0 (by decide)
                have g1 : (HP G h A N Y (F, P, T, K, la, (uI (uI M1 (100 * n + 48 + k) (F.2.2.1 k)) (100 * n + 54 + k) (F.2.1 k)), ik)) (A 1) = some (arI G 48 F.2.2.2) := hGet hA _ _ 1 (by decide)
                have g2 : (HP G h A N Y (F, P, T, K, la, (uI (uI M1 (100 * n + 48 + k) (F.2.2.1 k)) (100 * n + 54 + k) (F.2.1 k)), ik)) (A 2) = some (arI G 6 F.2.2.1) := hGet hA _ _ 2 (by decide)
                have g3 : (HP G h A N Y (F, P, T, K, la, (uI (uI M1 (100 * n + 48 + k) (F.2.2.1 k)) (100 * n + 54 + k) (F.2.1 k)), ik)) (A 3) = some (arI G 6 F.2.1) := hGet hA _ _ 3 (by decide)
                have g4 : (HP G h A N Y (F, P, T, K, la, (uI (uI M1 (100 * n + 48 + k) (F.2.2.1 k)) (100 * n + 54 + k) (F.2.1 k)), ik)) (A 4) = some (arI G 6 P.2.1) := hGet hA _ _ 4 (by decide)
                have g5 : (HP G h A N Y (F, P, T, K, la, (uI (uI M1 (100 * n + 48 + k) (F.2.2.1 k)) (100 * n + 54 + k) (F.2.1 k)), ik)) (A 5) = some (arI G 6 (nf P.2.2)) := hGet hA _ _ 5 (by decide)
                have g6 : (HP G h A N Y (F, P, T, K, la, (uI (uI M1 (100 * n + 48 + k) (F.2.2.1 k)) (100 * n + 54 + k) (F.2.1 k)), ik)) (A 6) = some (arI G 12 (sgOf T)) := hGet hA _ _ 6 (by decide)
                have g9 : (HP G h A N Y (F, P, T, K, la, (uI (uI M1 (100 * n + 48 + k) (F.2.2.1 k)) (100 * n + 54 + k) (F.2.1 k)), ik)) (A 9) = some (arI G 200 (uI (uI M1 (100 * n + 48 + k) (F.2.2.1 k)) (100 * n + 54 + k) (F.2.1 k))) := hGet hA _ _ 9 (by decide)
                have g10 : (HP G h A N Y (F, P, T, K, la, (uI (uI M1 (100 * n + 48 + k) (F.2.2.1 k)) (100 * n + 54 + k) (F.2.1 k)), ik)) (A 10) = some (arZ G 2 ik) := hGet hA _ _ 10 (by decide)
                refine EV.aload_n (i := 0) dX7_image_87 rfl rfl ?_
                refine EV.getf fl_X7_34 dX7_image_88 g0 rfl ?_
                refine EV.iload_n (i := 2) dX7_image_91 rfl rfl ?_
                refine EV.bipush dX7_image_92 (by decide) ?_
                refine EV.iadd dX7_image_94 ?_
                refine EV.iload_n (i := 3) dX7_image_95 rfl rfl ?_
                refine EV.iadd dX7_image_96 ?_
                refine EV.aload_n (i := 0) dX7_image_97 rfl rfl ?_
                refine EV.getf fl_X7_19 dX7_image_98 g0 rfl ?_
                refine EV.iload_n (i := 3) dX7_image_101 rfl rfl ?_
                refine EV.iald dX7_image_102 g4 (k) (rfl) (by omega) ?_
                refine EV.iast dX7_image_103 g9 (100 * n + 60 + k) (by omega) (by omega) ?_
                refine EV.hps (h' := HP G h A N Y (F, P, T, K, la, (uI (uI (uI M1 (100 * n + 48 + k) (F.2.2.1 k)) (100 * n + 54 + k) (F.2.1 k)) (100 * n + 60 + k) (P.2.1 k)), ik)) (mma hA _) ?_
                have g0 : (HP G h A N Y (F, P, T, K, la, (uI (uI (uI M1 (100 * n + 48 + k) (F.2.2.1 k)) (100 * n + 54 + k) (F.2.1 k)) (100 * n + 60 + k) (P.2.1 k)), ik)) (A 0) = some (obj 7 [.int (zI ((F.1 : Int))), .ref (A 1), .ref (A 2), .ref (A 3), .int (zI ((P.1 : Int))), .ref (A 4), .ref (A 5), .int (zI ((T.1 : Int))), .ref (A 6), .int (zI ((K.1 : Int))), .ref (A 7), .ref (A 8), .ref (A 9), .ref (A 10)]) := hGet hA _ _ 0 (by decide)
                have g1 : (HP G h A N Y (F, P, T, K, la, (uI (uI (uI M1 (100 * n + 48 + k) (F.2.2.1 k)) (100 * n + 54 + k) (F.2.1 k)) (100 * n + 60 + k) (P.2.1 k)), ik)) (A 1) = some (arI G 48 F.2.2.2) := hGet hA _ _ 1 (by decide)
                have g2 : (HP G h A N Y (F, P, T, K, la, (uI (uI (uI M1 (100 * n + 48 + k) (F.2.2.1 k)) (100 * n + 54 + k) (F.2.1 k)) (100 * n + 60 + k) (P.2.1 k)), ik)) (A 2) = some (arI G 6 F.2.2.1) := hGet hA _ _ 2 (by decide)
                have g3 : (HP G h A N Y (F, P, T, K, la, (uI (uI (uI M1 (100 * n + 48 + k) (F.2.2.1 k)) (100 * n + 54 + k) (F.2.1 k)) (100 * n + 60 + k) (P.2.1 k)), ik)) (A 3) = some (arI G 6 F.2.1) := hGet hA _ _ 3 (by decide)
                have g4 : (HP G h A N Y (F, P, T, K, la, (uI (uI (uI M1 (100 * n + 48 + k) (F.2.2.1 k)) (100 * n + 54 + k) (F.2.1 k)) (100 * n + 60 + k) (P.2.1 k)), ik)) (A 4) = some (arI G 6 P.2.1) := hGet hA _ _ 4 (by decide)
                have g5 : (HP G h A N Y (F, P, T, K, la, (uI (uI (uI M1 (100 * n + 48 + k) (F.2.2.1 k)) (100 * n + 54 + k) (F.2.1 k)) (100 * n + 60 + k) (P.2.1 k)), ik)) (A 5) = some (arI G 6 (nf P.2.2)) := hGet hA _ _ 5 (by decide)
                have g6 : (HP G h A N Y (F, P, T, K, la, (uI (uI (uI M1 (100 * n + 48 + k) (F.2.2.1 k)) (100 * n + 54 + k) (F.2.1 k)) (100 * n + 60 + k) (P.2.1 k)), ik)) (A 6) = some (arI G 12 (sgOf T)) := hGet hA _ _ 6 (by decide)
                have g9 : (HP G h A N Y (F, P, T, K, la, (uI (uI (uI M1 (100 * n + 48 + k) (F.2.2.1 k)) (100 * n + 54 + k) (F.2.1 k)) (100 * n + 60 + k) (P.2.1 k)), ik)) (A 9) = some (arI G 200 (uI (uI (uI M1 (100 * n + 48 + k) (F.2.2.1 k)) (100 * n + 54 + k) (F.2.1 k)) (100 * n + 60 + k) (P.2.1 k))) := hGet hA _ _ 9 (by decide)
                have g10 : (HP G h A N Y (F, P, T, K, la, (uI (uI (uI M1 (100 * n + 48 + k) (F.2.2.1 k)) (100 * n + 54 + k) (F.2.1 k)) (100 * n + 60 + k) (P.2.1 k)), ik)) (A 10) = some (arZ G 2 ik) := hGet hA _ _ 10 (by decide)
                refine EV.aload_n (i := 0) dX7_image_104 rfl rfl ?_
                refine EV.getf fl_X7_34 dX7_image_105 g0 rfl ?_
                refine EV.iload_n (i := 2) dX7_image_108 rfl rfl ?_
                refine EV.bipush dX7_image_109 (by decide) ?_
                refine EV.iadd dX7_image_111 ?_
                refine EV.iload_n (i := 3) dX7_image_112 rfl rfl ?_
                refine EV.iadd dX7_image_113 ?_
                refine EV.aload_n (i := 0) dX7_image_114 rfl rfl ?_
                refine EV.getf fl_X7_22 dX7_image_115 g0 rfl ?_
                refine EV.iload_n (i := 3) dX7_image_118 rfl rfl ?_
                refine EV.iald dX7_image_119 g5 (k) (rfl) (by omega) ?_
                refine EV.iast dX7_image_120 g9 (100 * n + 66 + k) (by omega) (by omega) ?_
                refine EV.hps (h' := HP G h A N Y (F, P, T, K, la, (uI (uI (uI (uI M1 (100 * n + 48 + k) (F.2.2.1 k)) (100 * n + 54 + k) (F.2.1 k)) (100 * n + 60 + k) (P.2.1 k)) (100 * n + 66 + k) (nf P.2.2 k)), ik)) (mma hA _) ?_
                have g0 : (HP G h A N Y (F, P, T, K, la, (uI (uI (uI (uI M1 (100 * n + 48 + k) (F.2.2.1 k)) (100 * n + 54 + k) (F.2.1 k)) (100 * n + 60 + k) (P.2.1 k)) (100 * n + 66 + k) (nf P.2.2 k)), ik)) (A 0) = some (obj 7 [.int (zI ((F.1 : Int))), .ref (A 1), .ref (A 2), .ref (A 3), .int (zI ((P.1 : Int))), .ref (A 4), .ref (A 5), .int (zI ((T.1 : Int))), .ref (A 6), .int (zI ((K.1 : Int))), .ref (A 7), .ref (A 8), .ref (A 9), .ref (A 10)]) := hGet hA _ _ 0 (by decide)
                have g1 : (HP G h A N Y (F, P, T, K, la, (uI (uI (uI (uI M1 (100 * n + 48 + k) (F.2.2.1 k)) (100 * n + 54 + k) (F.2.1 k)) (100 * n + 60 + k) (P.2.1 k)) (100 * n + 66 + k) (nf P.2.2 k)), ik)) (A 1) = some (arI G 48 F.2.2.2) := hGet hA _ _ 1 (by decide)
                have g2 : (HP G h A N Y (F, P, T, K, la, (uI (uI (uI (uI M1 (100 * n + 48 + k) (F.2.2.1 k)) (100 * n + 54 + k) (F.2.1 k)) (100 * n + 60 + k) (P.2.1 k)) (100 * n + 66 + k) (nf P.2.2 k)), ik)) (A 2) = some (arI G 6 F.2.2.1) := hGet hA _ _ 2 (by decide)
                have g3 : (HP G h A N Y (F, P, T, K, la, (uI (uI (uI (uI M1 (100 * n + 48 + k) (F.2.2.1 k)) (100 * n + 54 + k) (F.2.1 k)) (100 * n + 60 + k) (P.2.1 k)) (100 * n + 66 + k) (nf P.2.2 k)), ik)) (A 3) = some (arI G 6 F.2.1) := hGet hA _ _ 3 (by decide)
                have g4 : (HP G h A N Y (F, P, T, K, la, (uI (uI (uI (uI M1 (100 * n + 48 + k) (F.2.2.1 k)) (100 * n + 54 + k) (F.2.1 k)) (100 * n + 60 + k) (P.2.1 k)) (100 * n + 66 + k) (nf P.2.2 k)), ik)) (A 4) = some (arI G 6 P.2.1) := hGet hA _ _ 4 (by decide)
                have g5 : (HP G h A N Y (F, P, T, K, la, (uI (uI (uI (uI M1 (100 * n + 48 + k) (F.2.2.1 k)) (100 * n + 54 + k) (F.2.1 k)) (100 * n + 60 + k) (P.2.1 k)) (100 * n + 66 + k) (nf P.2.2 k)), ik)) (A 5) = some (arI G 6 (nf P.2.2)) := hGet hA _ _ 5 (by decide)
                have g6 : (HP G h A N Y (F, P, T, K, la, (uI (uI (uI (uI M1 (100 * n + 48 + k) (F.2.2.1 k)) (100 * n + 54 + k) (F.2.1 k)) (100 * n + 60 + k) (P.2.1 k)) (100 * n + 66 + k) (nf P.2.2 k)), ik)) (A 6) = some (arI G 12 (sgOf T)) := hGet hA _ _ 6 (by decide)
                have g9 : (HP G h A N Y (F, P, T, K, la, (uI (uI (uI (uI M1 (100 * n + 48 + k) (F.2.2.1 k)) (100 * n + 54 + k) (F.2.1 k)) (100 * n + 60 + k) (P.2.1 k)) (100 * n + 66 + k) (nf P.2.2 k)), ik)) (A 9) = some (arI G 200 (uI (uI (uI (uI M1 (100 * n + 48 + k) (F.2.2.1 k)) (100 * n + 54 + k) (F.2.1 k)) (100 * n + 60 + k) (P.2.1 k)) (100 * n + 66 + k) (nf P.2.2 k))) := hGet hA _ _ 9 (by decide)
                have g10 : (HP G h A N Y (F, P, T, K, la, (uI (uI (uI (uI M1 (100 * n + 48 + k) (F.2.2.1 k)) (100 * n + 54 + k) (F.2.1 k)) (100 * n + 60 + k) (P.2.1 k)) (100 * n + 66 + k) (nf P.2.2 k)), ik)) (A 10) = some (arZ G 2 ik) := hGet hA _ _ 10 (by decide)
                refine EV.iinc (i := 3) (lv' := [some (.ref (A 0)), some (.int (zI ((n : Int)))), some (.int (zI ((100 * (n : Int))))), some (.int (zI ((k : Int) + 1)))]) dX7_image_121 rfl (by decide) rfl ?_
                refine EV.goto (t := 47) dX7_image_124 (by decide) ?_
                exact ih47 (k + 1) _ _ _ (by omega) (fun j hj => by rw [uI_n _ _ (by omega), uI_n _ _ (by omega), uI_n _ _ (by omega), uI_n _ _ (by omega)]; exact h2 j hj) (im4 (by omega) h3) ((((ho2.u (by omega)).u (by omega)).u (by omega)).u (by omega)) (by omega) (rfl) (rfl)
          exact L47 _ 0 M _ _ (by omega) (h1) (fun j hj => absurd hj (Nat.not_lt_zero _)) (ho) (Nat.lt_succ_self _) (rfl) (rfl)
        · skip
          refine EV.aload_n (i := 0) dX7_image_25 rfl rfl ?_
          refine EV.getf fl_X7_34 dX7_image_26 g0 rfl ?_
          refine EV.iload_n (i := 2) dX7_image_29 rfl rfl ?_
          refine EV.iload_n (i := 3) dX7_image_30 rfl rfl ?_
          refine EV.iadd dX7_image_31 ?_
          refine EV.aload_n (i := 0) dX7_image_32 rfl rfl ?_
          refine EV.getf fl_X7_7 dX7_image_33 g0 rfl ?_
          refine EV.iload_n (i := 3) dX7_image_36 rfl rfl ?_
          refine EV.iald dX7_image_37 g1 (k) (rfl) (by omega) ?_
          refine EV.iast dX7_image_38 g9 (100 * n + k) (by omega) (by omega) ?_
          refine EV.hps (h' := HP G h A N Y (F, P, T, K, la, (uI M (100 * n + k) (F.2.2.2 k)), ik)) (mma hA _) ?_
          have g0 : (HP G h A N Y (F, P, T, K, la, (uI M (100 * n + k) (F.2.2.2 k)), ik)) (A 0) = some (obj 7 [.int (zI ((F.1 : Int))), .ref (A 1), .ref (A 2), .ref (A 3), .int (zI ((P.1 : Int))), .ref (A 4), .ref (A 5), .int (zI ((T.1 : Int))), .ref (A 6), .int (zI ((K.1 : Int))), .ref (A 7), .ref (A 8), .ref (A 9), .ref (A 10)]) := hGet hA _ _ 0 (by decide)
          have g1 : (HP G h A N Y (F, P, T, K, la, (uI M (100 * n + k) (F.2.2.2 k)), ik)) (A 1) = some (arI G 48 F.2.2.2) := hGet hA _ _ 1 (by decide)
          have g2 : (HP G h A N Y (F, P, T, K, la, (uI M (100 * n + k) (F.2.2.2 k)), ik)) (A 2) = some (arI G 6 F.2.2.1) := hGet hA _ _ 2 (by decide)
          have g3 : (HP G h A N Y (F, P, T, K, la, (uI M (100 * n + k) (F.2.2.2 k)), ik)) (A 3) = some (arI G 6 F.2.1) := hGet hA _ _ 3 (by decide)
          have g4 : (HP G h A N Y (F, P, T, K, la, (uI M (100 * n + k) (F.2.2.2 k)), ik)) (A 4) = some (arI G 6 P.2.1) := hGet hA _ _ 4 (by decide)
          have g5 : (HP G h A N Y (F, P, T, K, la, (uI M (100 * n + k) (F.2.2.2 k)), ik)) (A 5) = some (arI G 6 (nf P.2.2)) := hGet hA _ _ 5 (by decide)
          have g6 : (HP G h A N Y (F, P, T, K, la, (uI M (100 * n + k) (F.2.2.2 k)), ik)) (A 6) = some (arI G 12 (sgOf T)) := hGet hA _ _ 6 (by decide)
          have g9 : (HP G h A N Y (F, P, T, K, la, (uI M (100 * n + k) (F.2.2.2 k)), ik)) (A 9) = some (arI G 200 (uI M (100 * n + k) (F.2.2.2 k))) := hGet hA _ _ 9 (by decide)
          have g10 : (HP G h A N Y (F, P, T, K, la, (uI M (100 * n + k) (F.2.2.2 k)), ik)) (A 10) = some (arZ G 2 ik) := hGet hA _ _ 10 (by decide)
          refine EV.iinc (i := 3) (lv' := [some (.ref (A 0)), some (.int (zI ((n : Int)))), some (.int (zI ((100 * (n : Int))))), some (.int (zI ((k : Int) + 1)))]) dX7_image_39 rfl (by decide) rfl ?_
          refine EV.goto (t := 19) dX7_image_42 (by decide) ?_
          exact ih19 (k + 1) _ _ _ (by omega) (im1 h1) (ho.u (by omega)) (by omega) (rfl) (rfl)
    exact L19 _ 0 ma _ _ (by omega) (fun j hj => absurd hj (Nat.not_lt_zero _)) (fun _ _ => rfl) (Nat.lt_succ_self _) (rfl) (rfl)
  · skip
    have c6r := of_nrg c6
    refine EV.bipush dX7_image_9 (by decide) ?_
    refine EV.iret rfl dX7_image_11 ?_
    exact ⟨by simp [imgR, c6], ma, ik, by simp [imgK, c6]; exact hkq, rfl⟩
end
