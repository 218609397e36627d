theorem ft_y {F : FK} {t : Int} (hW : WF F) (h : ∃ q, q < 6 ∧ F.1.testBit q = true) : 0 ≤ ft F t := by
  refine Classical.byContradiction (fun hn => ?_)
  obtain ⟨q, hq, hb⟩ := h
  have hd := hW.dy hq hb t
  obtain ⟨D, hD⟩ : ∃ D : Nat, dy F q t = (D : Int) := ⟨(dy F q t).toNat, by omega⟩
  have h0 : (fst2 F t 8).1 = 0 := by
    have := fst2_in F t 8
    exact (this.2.2.2 (by unfold ft at hn; omega)).2
  have hz : ∀ n, (fst2 F t n).1 = 0 → ∀ D : Nat, D < n → cnt (hvB F (D : Int) t) 6 = 0 := by
    intro n
    induction n with
    | zero => intro _ D hD; exact absurd hD (Nat.not_lt_zero _)
    | succ n ih =>
      intro h1 D hD
      have hi := fst2_in F t n
      rw [fst2] at h1
      split at h1
      · have h2 : ((cnt (hvB F (n : Int) t) 6 : Nat) : Int) = 0 := h1
        omega
      · rename_i hc
        by_cases e : D = n
        · subst e; omega
        · exact ih h1 D (by omega)
  have h1 := hz 8 h0 D (by omega)
  have h2 : ∀ n, q < n → 0 < cnt (hvB F (D : Int) t) n := by
    intro n
    induction n with
    | zero => intro h; exact absurd h (Nat.not_lt_zero _)
    | succ n ih =>
      intro h
      rw [cnt_s]
      by_cases e : q = n
      · subst e
        rw [if_pos (by unfold hvB; rw [hb, decide_eq_true hD]; rfl)]; omega
      · have := ih (by omega); omega
  have := h2 6 hq
  omega
theorem orb_zero {f : Nat → Bool} {n : Nat} (h : orb f n ≠ 0) : ∃ q, q < n ∧ f q = true := by
  refine Classical.byContradiction (fun hn => h ?_)
  refine Nat.eq_of_testBit_eq (fun i => ?_)
  rw [orb_bit, Nat.zero_testBit]
  by_cases hi : i < n
  · cases hf : f i with
    | true => exact absurd ⟨i, hi, hf⟩ hn
    | false => rw [Bool.and_false]
  · rw [decide_eq_false hi]; rfl
theorem exn_s (f : Nat → Bool) (n : Nat) : exn f (n + 1) = (exn f n || f n) := by
  unfold exn
  rw [alln]
  cases alln (fun i => !(f i)) n <;> cases f n <;> rfl
theorem po_0 (F : FK) (hth : F.1 < 64) : F.1 = orb (poB F 0) 6 := by
  refine Nat.eq_of_testBit_eq (fun i => ?_)
  rw [orb_bit]
  by_cases hi : i < 6
  · rw [decide_eq_true hi]
    unfold poB
    have : exn (rcB F i) 0 = false := exn_f (fun j hj => absurd hj (Nat.not_lt_zero _))
    rw [this]; simp
  · have h6 : 2 ^ 6 ≤ 2 ^ i := Nat.pow_le_pow_right (by decide) (by omega)
    rw [decide_eq_false hi, Nat.testBit_lt_two_pow (Nat.lt_of_lt_of_le hth h6)]; rfl
theorem po_s (F : FK) (t : Nat) : (orb (poB F t) 6) &&& (63 ^^^ hv F (ft F (t : Int)) (t : Int)) = orb (poB F (t + 1)) 6 := by
  refine Nat.eq_of_testBit_eq (fun i => ?_)
  rw [Nat.testBit_and, Nat.testBit_xor, orb_bit, orb_bit, hv, orb_bit]
  by_cases hi : i < 6
  · have h63 : (63 : Nat).testBit i = true := (by decide : ∀ i, i < 6 → (63 : Nat).testBit i = true) i hi
    rw [decide_eq_true hi, h63]
    unfold poB
    rw [exn_s]
    have : rcB F i t = hvB F (ft F (t : Int)) (t : Int) i := rfl
    rw [this]
    cases F.1.testBit i <;> cases exn (rcB F i) t <;> cases hvB F (ft F (t : Int)) (t : Int) i <;> rfl
  · rw [decide_eq_false hi]; rfl
theorem po_z {F : FK} {t N : Nat} (h : orb (poB F t) 6 = 0) (htN : t ≤ N) : (0 : Nat) = orb (poB F N) 6 := by
  refine Nat.eq_of_testBit_eq (fun i => ?_)
  rw [orb_bit, Nat.zero_testBit]
  by_cases hi : i < 6
  · have h1 : (orb (poB F t) 6).testBit i = false := by rw [h]; exact Nat.zero_testBit _
    rw [orb_bit, decide_eq_true hi] at h1
    rw [decide_eq_true hi]
    unfold poB at h1 ⊢
    cases hb : F.1.testBit i with
    | false => rfl
    | true =>
      rw [hb] at h1
      cases he : exn (rcB F i) t with
      | false => rw [he] at h1; exact absurd h1 (by decide)
      | true => rw [exn_up he htN]; rfl
  · rw [decide_eq_false hi]; rfl
theorem po_lt (F : FK) (t : Nat) : orb (poB F t) 6 < 64 := orb_lt _ 6
theorem po_in {F : FK} {t : Nat} (h : orb (poB F t) 6 ≠ 0) : ∃ q, q < 6 ∧ F.1.testBit q = true := by
  obtain ⟨q, hq, hf⟩ := orb_zero h
  unfold poB at hf
  rw [Bool.and_eq_true] at hf
  exact ⟨q, hq, hf.1⟩
theorem suA_e {F : FK} {T : ST} {p q : Nat} (hq : q < 8) : suA F T (8 * p + q) = wlF F T p q := by
  unfold suA
  rw [show (8 * p + q) / 8 = p by omega, show (8 * p + q) % 8 = q by omega]
theorem suS_e {F : FK} {T : ST} {t : Int} {p q : Nat} (hq : q < 8) : suS F T t (8 * p + q) = (wlF F T p q && decide (dy F p t = (q : Int))) := by
  unfold suS
  rw [show (8 * p + q) / 8 = p by omega, show (8 * p + q) % 8 = q by omega]
theorem wlF_b {F : FK} {T : ST} {p q : Nat} (h : wlF F T p q = true) : F.1.testBit p = true := by
  unfold wlF wl at h
  rw [Bool.and_eq_true] at h
  exact h.1
theorem ith_wn {f : Nat → Nat → Bool} {i x : Int} {p q n : Nat} (h : x = ith f i (wls p q) n) (hp : p < 6) (hq : q < 8) (hf : f p q = false) : x = ith f i (wls p (q + 1)) n := by
  rw [h, wls_c p hp q hq, ith, if_neg (by rw [hf]; decide)]
theorem ith_wu {f : Nat → Nat → Bool} {i x : Int} {p q n : Nat} (h : x = ith f i (wls p q) n) (hp : p < 6) (hq : q < 8) (hf : f p q = true) (hi : (n : Int) ≠ i) : x = ith f i (wls p (q + 1)) (n + 1) := by
  rw [h, wls_c p hp q hq, ith, if_pos hf, if_neg hi]
theorem ith_wy {f : Nat → Nat → Bool} {i x : Int} {p q n : Nat} (h : x = ith f i (wls p q) n) (hp : p < 6) (hq : q < 8) (hf : f p q = true) (hi : (n : Int) = i) : x = 10 * (p : Int) + (q : Int) := by
  rw [h, wls_c p hp q hq, ith, if_pos hf, if_pos hi]
theorem ith_wr {f : Nat → Nat → Bool} {i x : Int} {p n : Nat} (h : x = ith f i (wls p 8) n) (hp : p < 6) : x = ith f i (wls (p + 1) 0) n := by
  rw [h, wls_n p hp]
theorem ith_we {f : Nat → Nat → Bool} {i x : Int} {n : Nat} (h : x = ith f i (wls 6 0) n) : x = if i = -1 then (n : Int) else -6 := by
  rw [h, wls_e, ith]
section
variable {G : GG} {l : Launch}
variable {h : Hp} {A : Nat → Nat} {N : Nat} {K : PD} {F : FK} {P : PL} {T : ST} {V : Nat → Int} {O : MO} {im : Nat → Option Nat} {IL : Nat → LQ} {X : MX}
set_option maxHeartbeats 4000000 in
set_option maxRecDepth 20000 in
theorem c_X6_weddingCost (d : Nat) (hA : inA A N) (hK : WFK K) (hW : WF F) (hP : WFP P) (hT : WFT T) (p q : Nat) (hp : p < 6) (hq : q < 6) (hbp : F.1.testBit p = true) (hbq : F.1.testBit q = true) (n : Nat) (hn : n < 16) : CT G l mX6_weddingCost (d + 6) 0 0 [.ref (A 11), .int (zI ((p : Int))), .int (zI ((q : Int))), .int (zI ((n : Int)))] (HP G h A N (K, (F, P, T, V), O, im, IL) X) (RQ (HP G h A N (K, (F, P, T, V), O, im, IL) X) (woR (wcost F p q n))) := by
  refine CT.of (by decide) (Nat.le_of_ble_eq_true rfl) (List.forall_mem_cons.mpr ⟨rfl, List.forall_mem_cons.mpr ⟨rfl, List.forall_mem_cons.mpr ⟨rfl, List.forall_mem_cons.mpr ⟨rfl, fun _ h => absurd h List.not_mem_nil⟩⟩⟩⟩) ?_
  refine EV.lvs (lv' := [some (.ref (A 11)), some (.int (zI ((p : Int)))), some (.int (zI ((q : Int)))), some (.int (zI ((n : Int)))), none, none]) rfl ?_
  have g11 : (HP G h A N (K, (F, P, T, V), O, im, IL) X) (A 11) = some (obj 6 [.ref (A 12), .ref (A 14), .ref (A 26), .ref (A 27)]) := hGet hA _ _ 11 (by decide)
  have g14 : (HP G h A N (K, (F, P, T, V), O, im, IL) X) (A 14) = some (obj 1 [.ref (A 15), .ref (A 20), .ref (A 23)]) := hGet hA _ _ 14 (by decide)
  have g15 : (HP G h A N (K, (F, P, T, V), O, im, IL) X) (A 15) = some (obj 0 [.int (zI ((F.1 : Int))), .ref (A 16), .ref (A 17), .ref (A 18), .ref (A 19)]) := hGet hA _ _ 15 (by decide)
  have hK6 := hK.1
  have hP6 := hP.1
  have hT6 := hT.1
  have hth := hW.1
  have hF : FolkAt G (HP G h A N (K, (F, P, T, V), O, im, IL) X) F (A 15) (A 16) (A 17) (A 18) (A 19) V := hFolk hA
  refine EV.aload_n (i := 0) dX6_weddingCost_0 rfl rfl ?_
  refine EV.getf fl_X6_19 dX6_weddingCost_1 g11 rfl ?_
  refine EV.getf fl_X6_56 dX6_weddingCost_4 g14 rfl ?_
  refine EV.astore (i := 4) (lv' := [some (.ref (A 11)), some (.int (zI ((p : Int)))), some (.int (zI ((q : Int)))), some (.int (zI ((n : Int)))), some (.ref (A 15)), none]) dX6_weddingCost_7 (by decide) rfl ?_
  refine EV.iload_n (i := 3) dX6_weddingCost_9 rfl rfl ?_
  refine EV.ifne (t := 33) dX6_weddingCost_10 (by decide) (by omega) (fun c10 => ?_) (fun c10 => ?_)
  · skip
    refine EV.iload_n (i := 3) dX6_weddingCost_33 rfl rfl ?_
    refine EV.iconst dX6_weddingCost_34 ?_
    refine EV.icmp_ne (t := 46) dX6_weddingCost_35 (by decide) (by omega) (fun c35 => ?_) (fun c35 => ?_)
    · skip
      refine EV.iload_n (i := 3) dX6_weddingCost_46 rfl rfl ?_
      refine EV.iconst dX6_weddingCost_47 ?_
      refine EV.icmp_ne (t := 59) dX6_weddingCost_48 (by decide) (by omega) (fun c48 => ?_) (fun c48 => ?_)
      · skip
        refine EV.iload_n (i := 3) dX6_weddingCost_59 rfl rfl ?_
        refine EV.bipush dX6_weddingCost_60 (by decide) ?_
        refine EV.isub dX6_weddingCost_62 ?_
        refine EV.istore (i := 5) (lv' := [some (.ref (A 11)), some (.int (zI ((p : Int)))), some (.int (zI ((q : Int)))), some (.int (zI ((n : Int)))), some (.ref (A 15)), some (.int (zI (((n : Int) - 10))))]) dX6_weddingCost_63 (by decide) rfl ?_
        refine EV.aload_n (i := 0) dX6_weddingCost_65 rfl rfl ?_
        refine EV.iload (i := 5) dX6_weddingCost_66 rfl ?_
        refine EV.callVr (M' := mX6_isThere) (as := [.int (zI (((n : Int) - 10)))]) (rest := []) ml_X6_69 im_X6_isThere se_X6_isThere rfl co_X6_isThere dX6_weddingCost_68 g11 (c_X6_isThere (d + 2) hA hK hW hP hT ((n : Int) - 10) (by omega)) rfl rfl (Nat.le_of_ble_eq_true rfl) ?_
        refine EV.ifeqB (t := 86) dX6_weddingCost_71 (by decide) (fun c71 => ?_) (fun c71 => ?_)
        · skip
          refine EV.bipush dX6_weddingCost_86 (by decide) ?_
          refine EV.iret rfl dX6_weddingCost_88 ?_
          exact rQ (wc_n (by omega) (fun r h1 h2 h3 _ _ => by rw [show (n : Int) - 10 = (r : Int) by omega, thI_n F h2, h3] at c71; exact absurd c71 (by decide))).symm
        · skip
          obtain ⟨r, hr, her, hbr⟩ := thI_p c71
          refine EV.lvs (lv' := [some (.ref (A 11)), some (.int (zI ((p : Int)))), some (.int (zI ((q : Int)))), some (.int (zI ((n : Int)))), some (.ref (A 15)), some (.int (zI ((r : Int))))]) (by rw [her]) ?_
          refine EV.iload (i := 5) dX6_weddingCost_74 rfl ?_
          refine EV.iload_n (i := 1) dX6_weddingCost_76 rfl rfl ?_
          refine EV.icmp_eq (t := 86) dX6_weddingCost_77 (by decide) (by omega) (fun c77 => ?_) (fun c77 => ?_)
          · skip
            refine EV.bipush dX6_weddingCost_86 (by decide) ?_
            refine EV.iret rfl dX6_weddingCost_88 ?_
            exact rQ (wc_n (by omega) (fun r2 h1 _ _ h4 _ => by omega)).symm
          · skip
            refine EV.iload (i := 5) dX6_weddingCost_80 rfl ?_
            refine EV.iload_n (i := 2) dX6_weddingCost_82 rfl rfl ?_
            refine EV.icmp_ne (t := 89) dX6_weddingCost_83 (by decide) (by omega) (fun c83 => ?_) (fun c83 => ?_)
            · skip
              refine EV.aload (i := 4) dX6_weddingCost_89 rfl ?_
              refine EV.iload_n (i := 1) dX6_weddingCost_91 rfl rfl ?_
              refine EV.iload (i := 5) dX6_weddingCost_92 rfl ?_
              refine EV.callVr (M' := mX0_cost) (as := [.int (zI ((p : Int))), .int (zI ((r : Int)))]) (rest := []) ml_X6_164 im_X0_cost se_X0_cost rfl co_X0_cost dX6_weddingCost_94 g15 (c_X0_cost (d + 0) hF hW p r hp hr hbp hbr) rfl rfl (Nat.le_of_ble_eq_true rfl) ?_
              have hci := cst_in F p r
              refine EV.aload (i := 4) dX6_weddingCost_97 rfl ?_
              refine EV.iload_n (i := 2) dX6_weddingCost_99 rfl rfl ?_
              refine EV.iload (i := 5) dX6_weddingCost_100 rfl ?_
              refine EV.callVr (M' := mX0_cost) (as := [.int (zI ((q : Int))), .int (zI ((r : Int)))]) (rest := [.int (zI (cst F p r))]) ml_X6_164 im_X0_cost se_X0_cost rfl co_X0_cost dX6_weddingCost_102 g15 (c_X0_cost (d + 0) hF hW q r hq hr hbq hbr) rfl rfl (Nat.le_of_ble_eq_true rfl) ?_
              have hci2 := cst_in F q r
              refine EV.iadd dX6_weddingCost_105 ?_
              refine EV.iret rfl dX6_weddingCost_106 ?_
              exact rQ (wc_r (by omega) hr hbr (by omega) (by omega)).symm
            · skip
              refine EV.bipush dX6_weddingCost_86 (by decide) ?_
              refine EV.iret rfl dX6_weddingCost_88 ?_
              exact rQ (wc_n (by omega) (fun r2 h1 _ _ _ h4 => by omega)).symm
      · skip
        obtain rfl : n = 2 := by omega
        refine EV.aload (i := 4) dX6_weddingCost_51 rfl ?_
        refine EV.iload_n (i := 2) dX6_weddingCost_53 rfl rfl ?_
        refine EV.iload_n (i := 1) dX6_weddingCost_54 rfl rfl ?_
        refine EV.callVr (M' := mX0_cost) (as := [.int (zI ((q : Int))), .int (zI ((p : Int)))]) (rest := []) ml_X6_164 im_X0_cost se_X0_cost rfl co_X0_cost dX6_weddingCost_55 g15 (c_X0_cost (d + 0) hF hW q p hq hp hbq hbp) rfl rfl (Nat.le_of_ble_eq_true rfl) ?_
        have hci := cst_in F q p
        refine EV.iret rfl dX6_weddingCost_58 ?_
        exact rQ (wc_2 F p q).2.2.symm
    · skip
      obtain rfl : n = 1 := by omega
      refine EV.aload (i := 4) dX6_weddingCost_38 rfl ?_
      refine EV.iload_n (i := 1) dX6_weddingCost_40 rfl rfl ?_
      refine EV.iload_n (i := 2) dX6_weddingCost_41 rfl rfl ?_
      refine EV.callVr (M' := mX0_cost) (as := [.int (zI ((p : Int))), .int (zI ((q : Int)))]) (rest := []) ml_X6_164 im_X0_cost se_X0_cost rfl co_X0_cost dX6_weddingCost_42 g15 (c_X0_cost (d + 0) hF hW p q hp hq hbp hbq) rfl rfl (Nat.le_of_ble_eq_true rfl) ?_
      have hci := cst_in F p q
      refine EV.iret rfl dX6_weddingCost_45 ?_
      exact rQ (wc_2 F p q).2.1.symm
  · skip
    obtain rfl : n = 0 := by omega
    refine EV.aload (i := 4) dX6_weddingCost_13 rfl ?_
    refine EV.iload_n (i := 1) dX6_weddingCost_15 rfl rfl ?_
    refine EV.iload_n (i := 2) dX6_weddingCost_16 rfl rfl ?_
    refine EV.bipush dX6_weddingCost_17 (by decide) ?_
    refine EV.callVr (M' := mX0_sharedDates) (as := [.int (zI ((p : Int))), .int (zI ((q : Int))), .int (zI (28))]) (rest := []) ml_X6_111 im_X0_sharedDates se_X0_sharedDates rfl co_X0_sharedDates dX6_weddingCost_19 g15 (c_X0_sharedDates (d + 1) hF hW p q hp hq hbp hbq 28 (by decide)) rfl rfl (Nat.le_of_ble_eq_true rfl) ?_
    have hsl := shr_le F p q 28
    refine EV.iconst dX6_weddingCost_22 ?_
    refine EV.icmp_lt (t := 30) dX6_weddingCost_23 (by decide) (by omega) (fun c23 => ?_) (fun c23 => ?_)
    · skip
      refine EV.bipush dX6_weddingCost_30 (by decide) ?_
      refine EV.iret rfl dX6_weddingCost_32 ?_
      exact rQ (by rw [(wc_2 F p q).1, if_neg (by omega)])
    · skip
      refine EV.iconst dX6_weddingCost_26 ?_
      refine EV.goto (t := 32) dX6_weddingCost_27 (by decide) ?_
      refine EV.iret rfl dX6_weddingCost_32 ?_
      exact rQ (by rw [(wc_2 F p q).1, if_pos (by omega)])
set_option maxHeartbeats 4000000 in
set_option maxRecDepth 20000 in
theorem c_X6_wedding (d : Nat) (hA : inA A N) (hK : WFK K) (hW : WF F) (hP : WFP P) (hT : WFT T) (z y w : Int) (hz : inR z) (hy : inR y) (hw : inR w) : CT G l mX6_wedding (d + 7) 0 0 [.ref (A 11), .int (zI (z)), .int (zI (y)), .int (zI (w))] (HP G h A N (K, (F, P, T, V), O, im, IL) X) (RQ (HP G h A N (K, (F, P, T, V), O, im, IL) X) (wedR F z y w)) := by
  refine CT.of (by decide) (Nat.le_of_ble_eq_true rfl) (List.forall_mem_cons.mpr ⟨rfl, List.forall_mem_cons.mpr ⟨rfl, List.forall_mem_cons.mpr ⟨rfl, List.forall_mem_cons.mpr ⟨rfl, fun _ h => absurd h List.not_mem_nil⟩⟩⟩⟩) ?_
  refine EV.lvs (lv' := [some (.ref (A 11)), some (.int (zI (z))), some (.int (zI (y))), some (.int (zI (w))), none, none, none, none]) rfl ?_
  have g11 : (HP G h A N (K, (F, P, T, V), O, im, IL) X) (A 11) = some (obj 6 [.ref (A 12), .ref (A 14), .ref (A 26), .ref (A 27)]) := hGet hA _ _ 11 (by decide)
  have hK6 := hK.1
  have hP6 := hP.1
  have hT6 := hT.1
  have hth := hW.1
  have hF : FolkAt G (HP G h A N (K, (F, P, T, V), O, im, IL) X) F (A 15) (A 16) (A 17) (A 18) (A 19) V := hFolk hA
  refine EV.aload_n (i := 0) dX6_wedding_0 rfl rfl ?_
  refine EV.iload_n (i := 1) dX6_wedding_1 rfl rfl ?_
  refine EV.iload_n (i := 2) dX6_wedding_2 rfl rfl ?_
  refine EV.callVr (M' := mX6_areTwoThere) (as := [.int (zI (z)), .int (zI (y))]) (rest := []) ml_X6_108 im_X6_areTwoThere se_X6_areTwoThere rfl co_X6_areTwoThere dX6_wedding_3 g11 (c_X6_areTwoThere (d + 2) hA hK hW hP hT z y (by omega) (by omega)) rfl rfl (Nat.le_of_ble_eq_true rfl) ?_
  refine EV.ifneB (t := 11) dX6_wedding_6 (by decide) (fun c6 => ?_) (fun c6 => ?_)
  · skip
    obtain ⟨p, q, hp, hq, rfl, rfl, hbp, hbq, hpq⟩ := twI_of c6
    refine EV.iload_n (i := 3) dX6_wedding_11 rfl rfl ?_
    refine EV.iconst dX6_wedding_12 ?_
    refine EV.callSr (M' := mX6_isOneOf) (as := [.int (zI (w)), .int (zI (2))]) (rest := []) ml_X6_42 sm_X6_isOneOf co_X6_isOneOf dX6_wedding_13 (c_X6_isOneOfL (d + 5) w 2 1 rfl (by omega) (by omega)) rfl rfl (Nat.le_of_ble_eq_true rfl) ?_
    refine EV.ifneB (t := 22) dX6_wedding_16 (by decide) (fun c16 => ?_) (fun c16 => ?_)
    · skip
      have c16r := of_rg c16
      refine EV.bipush dX6_wedding_22 (by decide) ?_
      refine EV.istore (i := 4) (lv' := [some (.ref (A 11)), some (.int (zI ((p : Int)))), some (.int (zI ((q : Int)))), some (.int (zI (w))), some (.int (zI ((-6)))), none, none, none]) dX6_wedding_24 (by decide) rfl ?_
      refine EV.bipush dX6_wedding_26 (by decide) ?_
      refine EV.istore (i := 5) (lv' := [some (.ref (A 11)), some (.int (zI ((p : Int)))), some (.int (zI ((q : Int)))), some (.int (zI (w))), some (.int (zI ((-6)))), some (.int (zI ((-6)))), none, none]) dX6_wedding_28 (by decide) rfl ?_
      refine EV.iconst dX6_wedding_30 ?_
      refine EV.istore (i := 6) (lv' := [some (.ref (A 11)), some (.int (zI ((p : Int)))), some (.int (zI ((q : Int)))), some (.int (zI (w))), some (.int (zI ((-6)))), some (.int (zI ((-6)))), some (.int (zI (0))), none]) dX6_wedding_31 (by decide) rfl ?_
      have L33 : ∀ (n33 : Nat) (n : Nat) (x4 x5 x6 : Int), (n ≤ 16) → 16 - n < n33 → x4 = wdF (wdS F p q n) → x5 = wdW (wdS F p q n) → x6 = (n : Int) → EV G l mX6_wedding (d + 7) (RQ (HP G h A N (K, (F, P, T, V), O, im, IL) X) (wedR F (p : Int) (q : Int) w)) 33 [some (.ref (A 11)), some (.int (zI ((p : Int)))), some (.int (zI ((q : Int)))), some (.int (zI (w))), some (.int (zI (x4))), some (.int (zI (x5))), some (.int (zI (x6))), none] [] (HP G h A N (K, (F, P, T, V), O, im, IL) X) 0 0 := by
        intro n33
        induction n33 with
        | zero => intro _ _ _ _ _ hm; exact absurd hm (Nat.not_lt_zero _)
        | succ n33 ih33 =>
          intro n x4 x5 x6 hn hm33 e4 e5 e6
          subst e4 e5 e6
          have hwb := wd_b (F := F) (p := p) (q := q) (n := n)
          refine EV.iload (i := 6) dX6_wedding_33 rfl ?_
          refine EV.bipush dX6_wedding_35 (by decide) ?_
          refine EV.icmp_ge (t := 85) dX6_wedding_37 (by decide) (by omega) (fun c37 => ?_) (fun c37 => ?_)
          · skip
            obtain rfl : n = 16 := by omega
            refine EV.iload_n (i := 3) dX6_wedding_85 rfl rfl ?_
            refine EV.ifne (t := 94) dX6_wedding_86 (by decide) (by omega) (fun c86 => ?_) (fun c86 => ?_)
            · skip
              refine EV.iload (i := 5) dX6_wedding_94 rfl ?_
              refine EV.iret rfl dX6_wedding_96 ?_
              exact rQ (by rw [wedR_c c6 c16, if_neg c86]; rfl)
            · skip
              refine EV.iload (i := 4) dX6_wedding_89 rfl ?_
              refine EV.goto (t := 96) dX6_wedding_91 (by decide) ?_
              refine EV.iret rfl dX6_wedding_96 ?_
              exact rQ (by rw [wedR_c c6 c16, if_pos c86]; rfl)
          · skip
            refine EV.aload_n (i := 0) dX6_wedding_40 rfl rfl ?_
            refine EV.iload_n (i := 1) dX6_wedding_41 rfl rfl ?_
            refine EV.iload_n (i := 2) dX6_wedding_42 rfl rfl ?_
            refine EV.iload (i := 6) dX6_wedding_43 rfl ?_
            refine EV.callVr (M' := mX6_weddingCost) (as := [.int (zI ((p : Int))), .int (zI ((q : Int))), .int (zI ((n : Int)))]) (rest := []) ml_X6_161 im_X6_weddingCost se_X6_weddingCost rfl co_X6_weddingCost dX6_wedding_45 g11 (c_X6_weddingCost (d + 0) hA hK hW hP hT p q hp hq hbp hbq n (by omega)) rfl rfl (Nat.le_of_ble_eq_true rfl) ?_
            have hwo := wo_in F p q n
            refine EV.istore (i := 7) (lv' := [some (.ref (A 11)), some (.int (zI ((p : Int)))), some (.int (zI ((q : Int)))), some (.int (zI (w))), some (.int (zI (wdF (wdS F p q n)))), some (.int (zI (wdW (wdS F p q n)))), some (.int (zI ((n : Int)))), some (.int (zI (woR (wcost F p q n))))]) dX6_wedding_48 (by decide) rfl ?_
            refine EV.iload (i := 7) dX6_wedding_50 rfl ?_
            refine EV.bipush dX6_wedding_52 (by decide) ?_
            refine EV.icmp_eq (t := 79) dX6_wedding_54 (by decide) (by omega) (fun c54 => ?_) (fun c54 => ?_)
            · skip
              refine EV.iinc (i := 6) (lv' := [some (.ref (A 11)), some (.int (zI ((p : Int)))), some (.int (zI ((q : Int)))), some (.int (zI (w))), some (.int (zI (wdF (wdS F p q n)))), some (.int (zI (wdW (wdS F p q n)))), some (.int (zI ((n : Int) + 1))), some (.int (zI (woR (wcost F p q n))))]) dX6_wedding_79 rfl (by decide) rfl ?_
              refine EV.goto (t := 33) dX6_wedding_82 (by decide) ?_
              refine EV.drop 7 (lv' := [some (.ref (A 11)), some (.int (zI ((p : Int)))), some (.int (zI ((q : Int)))), some (.int (zI (w))), some (.int (zI (wdF (wdS F p q n)))), some (.int (zI (wdW (wdS F p q n)))), some (.int (zI (((n : Int) + 1)))), none]) rfl ?_
              exact ih33 (n + 1) _ _ _ (by omega) (by omega) (congrArg wdF (wd_n (Or.inl c54))) (congrArg wdW (wd_n (Or.inl c54))) (rfl)
            · skip
              refine EV.iload (i := 4) dX6_wedding_57 rfl ?_
              refine EV.bipush dX6_wedding_59 (by decide) ?_
              refine EV.icmp_eq (t := 71) dX6_wedding_61 (by decide) (by omega) (fun c61 => ?_) (fun c61 => ?_)
              · skip
                refine EV.iload (i := 7) dX6_wedding_71 rfl ?_
                refine EV.istore (i := 4) (lv' := [some (.ref (A 11)), some (.int (zI ((p : Int)))), some (.int (zI ((q : Int)))), some (.int (zI (w))), some (.int (zI (woR (wcost F p q n)))), some (.int (zI (wdW (wdS F p q n)))), some (.int (zI ((n : Int)))), some (.int (zI (woR (wcost F p q n))))]) dX6_wedding_73 (by decide) rfl ?_
                refine EV.iload (i := 6) dX6_wedding_75 rfl ?_
                refine EV.istore (i := 5) (lv' := [some (.ref (A 11)), some (.int (zI ((p : Int)))), some (.int (zI ((q : Int)))), some (.int (zI (w))), some (.int (zI (woR (wcost F p q n)))), some (.int (zI ((n : Int)))), some (.int (zI ((n : Int)))), some (.int (zI (woR (wcost F p q n))))]) dX6_wedding_77 (by decide) rfl ?_
                refine EV.iinc (i := 6) (lv' := [some (.ref (A 11)), some (.int (zI ((p : Int)))), some (.int (zI ((q : Int)))), some (.int (zI (w))), some (.int (zI (woR (wcost F p q n)))), some (.int (zI ((n : Int)))), some (.int (zI ((n : Int) + 1))), some (.int (zI (woR (wcost F p q n))))]) dX6_wedding_79 rfl (by decide) rfl ?_
                refine EV.goto (t := 33) dX6_wedding_82 (by decide) ?_
                refine EV.drop 7 (lv' := [some (.ref (A 11)), some (.int (zI ((p : Int)))), some (.int (zI ((q : Int)))), some (.int (zI (w))), some (.int (zI (woR (wcost F p q n)))), some (.int (zI ((n : Int)))), some (.int (zI (((n : Int) + 1)))), none]) rfl ?_
                exact ih33 (n + 1) _ _ _ (by omega) (by omega) ((wd_y c54 (Or.inl c61)).1.symm) ((wd_y c54 (Or.inl c61)).2.symm) (rfl)
              · skip
                refine EV.iload (i := 7) dX6_wedding_64 rfl ?_
                refine EV.iload (i := 4) dX6_wedding_66 rfl ?_
                refine EV.icmp_ge (t := 79) dX6_wedding_68 (by decide) (by omega) (fun c68 => ?_) (fun c68 => ?_)
                · skip
                  refine EV.iinc (i := 6) (lv' := [some (.ref (A 11)), some (.int (zI ((p : Int)))), some (.int (zI ((q : Int)))), some (.int (zI (w))), some (.int (zI (wdF (wdS F p q n)))), some (.int (zI (wdW (wdS F p q n)))), some (.int (zI ((n : Int) + 1))), some (.int (zI (woR (wcost F p q n))))]) dX6_wedding_79 rfl (by decide) rfl ?_
                  refine EV.goto (t := 33) dX6_wedding_82 (by decide) ?_
                  refine EV.drop 7 (lv' := [some (.ref (A 11)), some (.int (zI ((p : Int)))), some (.int (zI ((q : Int)))), some (.int (zI (w))), some (.int (zI (wdF (wdS F p q n)))), some (.int (zI (wdW (wdS F p q n)))), some (.int (zI (((n : Int) + 1)))), none]) rfl ?_
                  exact ih33 (n + 1) _ _ _ (by omega) (by omega) (congrArg wdF (wd_n (Or.inr ⟨c61, c68⟩))) (congrArg wdW (wd_n (Or.inr ⟨c61, c68⟩))) (rfl)
                · skip
                  refine EV.iload (i := 7) dX6_wedding_71 rfl ?_
                  refine EV.istore (i := 4) (lv' := [some (.ref (A 11)), some (.int (zI ((p : Int)))), some (.int (zI ((q : Int)))), some (.int (zI (w))), some (.int (zI (woR (wcost F p q n)))), some (.int (zI (wdW (wdS F p q n)))), some (.int (zI ((n : Int)))), some (.int (zI (woR (wcost F p q n))))]) dX6_wedding_73 (by decide) rfl ?_
                  refine EV.iload (i := 6) dX6_wedding_75 rfl ?_
                  refine EV.istore (i := 5) (lv' := [some (.ref (A 11)), some (.int (zI ((p : Int)))), some (.int (zI ((q : Int)))), some (.int (zI (w))), some (.int (zI (woR (wcost F p q n)))), some (.int (zI ((n : Int)))), some (.int (zI ((n : Int)))), some (.int (zI (woR (wcost F p q n))))]) dX6_wedding_77 (by decide) rfl ?_
                  refine EV.iinc (i := 6) (lv' := [some (.ref (A 11)), some (.int (zI ((p : Int)))), some (.int (zI ((q : Int)))), some (.int (zI (w))), some (.int (zI (woR (wcost F p q n)))), some (.int (zI ((n : Int)))), some (.int (zI ((n : Int) + 1))), some (.int (zI (woR (wcost F p q n))))]) dX6_wedding_79 rfl (by decide) rfl ?_
                  refine EV.goto (t := 33) dX6_wedding_82 (by decide) ?_
                  refine EV.drop 7 (lv' := [some (.ref (A 11)), some (.int (zI ((p : Int)))), some (.int (zI ((q : Int)))), some (.int (zI (w))), some (.int (zI (woR (wcost F p q n)))), some (.int (zI ((n : Int)))), some (.int (zI (((n : Int) + 1)))), none]) rfl ?_
                  exact ih33 (n + 1) _ _ _ (by omega) (by omega) ((wd_y c54 (Or.inr (by omega))).1.symm) ((wd_y c54 (Or.inr (by omega))).2.symm) (rfl)
      exact L33 _ 0 _ _ _ (by omega) (Nat.lt_succ_self _) (rfl) (rfl) (rfl)
    · skip
      have c16r := of_nrg c16
      refine EV.bipush dX6_wedding_19 (by decide) ?_
      refine EV.iret rfl dX6_wedding_21 ?_
      exact rQ (by rw [wedR, if_pos c6, if_neg (by rw [c16]; decide)])
  · skip
    refine EV.iconst dX6_wedding_9 ?_
    refine EV.iret rfl dX6_wedding_10 ?_
    exact rQ (by rw [wedR, if_neg (by rw [c6]; decide)])
set_option maxHeartbeats 4000000 in
set_option maxRecDepth 20000 in
theorem c_X6_best (d : Nat) (hA : inA A N) (hK : WFK K) (hW : WF F) (hP : WFP P) (hT : WFT T) (b w : Int) (hb : inR b) (hw : inR w) : CT G l mX6_best (d + 5) 0 0 [.ref (A 11), .int (zI (b)), .int (zI (w))] (HP G h A N (K, (F, P, T, V), O, im, IL) X) (RQ (HP G h A N (K, (F, P, T, V), O, im, IL) X) (bestR F b w)) := by
  refine CT.of (by decide) (Nat.le_of_ble_eq_true rfl) (List.forall_mem_cons.mpr ⟨rfl, List.forall_mem_cons.mpr ⟨rfl, List.forall_mem_cons.mpr ⟨rfl, fun _ h => absurd h List.not_mem_nil⟩⟩⟩) ?_
  refine EV.lvs (lv' := [some (.ref (A 11)), some (.int (zI (b))), some (.int (zI (w))), none, none, none, none, none]) rfl ?_
  have g11 : (HP G h A N (K, (F, P, T, V), O, im, IL) X) (A 11) = some (obj 6 [.ref (A 12), .ref (A 14), .ref (A 26), .ref (A 27)]) := hGet hA _ _ 11 (by decide)
  have g14 : (HP G h A N (K, (F, P, T, V), O, im, IL) X) (A 14) = some (obj 1 [.ref (A 15), .ref (A 20), .ref (A 23)]) := hGet hA _ _ 14 (by decide)
  have g15 : (HP G h A N (K, (F, P, T, V), O, im, IL) X) (A 15) = some (obj 0 [.int (zI ((F.1 : Int))), .ref (A 16), .ref (A 17), .ref (A 18), .ref (A 19)]) := hGet hA _ _ 15 (by decide)
  have hK6 := hK.1
  have hP6 := hP.1
  have hT6 := hT.1
  have hth := hW.1
  have hF : FolkAt G (HP G h A N (K, (F, P, T, V), O, im, IL) X) F (A 15) (A 16) (A 17) (A 18) (A 19) V := hFolk hA
  refine EV.iload_n (i := 1) dX6_best_0 rfl rfl ?_
  refine EV.callSr (M' := mX6_isBirth) (as := [.int (zI (b))]) (rest := []) ml_X6_53 sm_X6_isBirth co_X6_isBirth dX6_best_1 (c_X6_isBirth (d + 3) b (by omega)) rfl rfl (Nat.le_of_ble_eq_true rfl) ?_
  refine EV.ifeqB (t := 15) dX6_best_4 (by decide) (fun c4 => ?_) (fun c4 => ?_)
  · skip
    have c4r := of_nrg c4
    refine EV.bipush dX6_best_15 (by decide) ?_
    refine EV.iret rfl dX6_best_17 ?_
    exact rQ (by simp [bestR, c4])
  · skip
    have c4r := of_rg c4
    refine EV.iload_n (i := 2) dX6_best_7 rfl rfl ?_
    refine EV.iconst dX6_best_8 ?_
    refine EV.callSr (M' := mX6_isOneOf) (as := [.int (zI (w)), .int (zI (2))]) (rest := []) ml_X6_42 sm_X6_isOneOf co_X6_isOneOf dX6_best_9 (c_X6_isOneOfL (d + 3) w 2 1 rfl (by omega) (by omega)) rfl rfl (Nat.le_of_ble_eq_true rfl) ?_
    refine EV.ifneB (t := 18) dX6_best_12 (by decide) (fun c12 => ?_) (fun c12 => ?_)
    · skip
      have c12r := of_rg c12
      refine EV.iconst dX6_best_18 ?_
      refine EV.istore_n (i := 3) (lv' := [some (.ref (A 11)), some (.int (zI (b))), some (.int (zI (w))), some (.int (zI ((-1)))), none, none, none, none]) dX6_best_19 rfl (by decide) rfl ?_
      refine EV.bipush dX6_best_20 (by decide) ?_
      refine EV.istore (i := 4) (lv' := [some (.ref (A 11)), some (.int (zI (b))), some (.int (zI (w))), some (.int (zI ((-1)))), some (.int (zI ((-6)))), none, none, none]) dX6_best_22 (by decide) rfl ?_
      refine EV.iconst dX6_best_24 ?_
      refine EV.istore (i := 5) (lv' := [some (.ref (A 11)), some (.int (zI (b))), some (.int (zI (w))), some (.int (zI ((-1)))), some (.int (zI ((-6)))), some (.int (zI (0))), none, none]) dX6_best_25 (by decide) rfl ?_
      have L27 : ∀ (n27 : Nat) (W : Nat) (x3 x4 x5 : Int), (W ≤ 2) → 2 - W < n27 → x3 = (bsS F b (7 * W)).1 → x4 = (bsS F b (7 * W)).2 → x5 = (W : Int) → EV G l mX6_best (d + 5) (RQ (HP G h A N (K, (F, P, T, V), O, im, IL) X) (bestR F b w)) 27 [some (.ref (A 11)), some (.int (zI (b))), some (.int (zI (w))), some (.int (zI (x3))), some (.int (zI (x4))), some (.int (zI (x5))), none, none] [] (HP G h A N (K, (F, P, T, V), O, im, IL) X) 0 0 := by
        intro n27
        induction n27 with
        | zero => intro _ _ _ _ _ hm; exact absurd hm (Nat.not_lt_zero _)
        | succ n27 ih27 =>
          intro W x3 x4 x5 hW2 hm27 e3 e4 e5
          subst e3 e4 e5
          refine EV.iload (i := 5) dX6_best_27 rfl ?_
          refine EV.iconst dX6_best_29 ?_
          refine EV.icmp_ge (t := 91) dX6_best_30 (by decide) (by omega) (fun c30 => ?_) (fun c30 => ?_)
          · skip
            obtain rfl : W = 2 := by omega
            refine EV.iload_n (i := 2) dX6_best_91 rfl rfl ?_
            refine EV.ifne (t := 99) dX6_best_92 (by decide) (by omega) (fun c92 => ?_) (fun c92 => ?_)
            · skip
              refine EV.iload (i := 4) dX6_best_99 rfl ?_
              refine EV.iret rfl dX6_best_101 ?_
              exact rQ (by rw [bestR, if_pos (by rw [c4, c12]; rfl), if_neg c92])
            · skip
              refine EV.iload_n (i := 3) dX6_best_95 rfl rfl ?_
              refine EV.goto (t := 101) dX6_best_96 (by decide) ?_
              refine EV.iret rfl dX6_best_101 ?_
              exact rQ (by rw [bestR, if_pos (by rw [c4, c12]; rfl), if_pos c92])
          · skip
            refine EV.iconst dX6_best_33 ?_
            refine EV.istore (i := 6) (lv' := [some (.ref (A 11)), some (.int (zI (b))), some (.int (zI (w))), some (.int (zI ((bsS F b (7 * W)).1))), some (.int (zI ((bsS F b (7 * W)).2))), some (.int (zI ((W : Int)))), some (.int (zI (0))), none]) dX6_best_34 (by decide) rfl ?_
            have L36 : ∀ (n36 : Nat) (u : Nat) (x3 x4 x6 : Int), (u ≤ 7) → 7 - u < n36 → x3 = (bsS F b (7 * W + u)).1 → x4 = (bsS F b (7 * W + u)).2 → x6 = (u : Int) → EV G l mX6_best (d + 5) (RQ (HP G h A N (K, (F, P, T, V), O, im, IL) X) (bestR F b w)) 36 [some (.ref (A 11)), some (.int (zI (b))), some (.int (zI (w))), some (.int (zI (x3))), some (.int (zI (x4))), some (.int (zI ((W : Int)))), some (.int (zI (x6))), none] [] (HP G h A N (K, (F, P, T, V), O, im, IL) X) 0 0 := by
              intro n36
              induction n36 with
              | zero => intro _ _ _ _ _ hm; exact absurd hm (Nat.not_lt_zero _)
              | succ n36 ih36 =>
                intro u x3 x4 x6 hu hm36 e3 e4 e6
                subst e3 e4 e6
                have hbi := bs_in F b (7 * W + u)
                refine EV.iload (i := 6) dX6_best_36 rfl ?_
                refine EV.bipush dX6_best_38 (by decide) ?_
                refine EV.icmp_ge (t := 85) dX6_best_40 (by decide) (by omega) (fun c40 => ?_) (fun c40 => ?_)
                · skip
                  obtain rfl : u = 7 := by omega
                  refine EV.iinc (i := 5) (lv' := [some (.ref (A 11)), some (.int (zI (b))), some (.int (zI (w))), some (.int (zI ((bsS F b (7 * W + (7 : Nat))).1))), some (.int (zI ((bsS F b (7 * W + (7 : Nat))).2))), some (.int (zI ((W : Int) + 1))), some (.int (zI (((7 : Nat) : Int)))), none]) dX6_best_85 rfl (by decide) rfl ?_
                  refine EV.goto (t := 27) dX6_best_88 (by decide) ?_
                  refine EV.drop 6 (lv' := [some (.ref (A 11)), some (.int (zI (b))), some (.int (zI (w))), some (.int (zI ((bsS F b (7 * W + (7 : Nat))).1))), some (.int (zI ((bsS F b (7 * W + (7 : Nat))).2))), some (.int (zI (((W : Int) + 1)))), none, none]) rfl ?_
                  exact ih27 (W + 1) _ _ _ (by omega) (by omega) (rfl) (rfl) (rfl)
                · skip
                  refine EV.aload_n (i := 0) dX6_best_43 rfl rfl ?_
                  refine EV.getf fl_X6_19 dX6_best_44 g11 rfl ?_
                  refine EV.getf fl_X6_56 dX6_best_47 g14 rfl ?_
                  refine EV.iload (i := 6) dX6_best_50 rfl ?_
                  refine EV.iload (i := 5) dX6_best_52 rfl ?_
                  refine EV.iload_n (i := 1) dX6_best_54 rfl rfl ?_
                  refine EV.callVr (M' := mX0_fewestShared) (as := [.int (zI ((u : Int))), .int (zI ((W : Int))), .int (zI (b))]) (rest := []) ml_X6_167 im_X0_fewestShared se_X0_fewestShared rfl co_X0_fewestShared dX6_best_55 g15 (c_X0_fewestShared (d + 0) hF hW (u : Int) (W : Int) b (by omega) (by omega) (by omega)) rfl rfl (Nat.le_of_ble_eq_true rfl) ?_
                  have hfs := fsh_in F (u : Int) (W : Int) b 6
                  refine EV.istore (i := 7) (lv' := [some (.ref (A 11)), some (.int (zI (b))), some (.int (zI (w))), some (.int (zI ((bsS F b (7 * W + u)).1))), some (.int (zI ((bsS F b (7 * W + u)).2))), some (.int (zI ((W : Int)))), some (.int (zI ((u : Int)))), some (.int (zI (fsh F (u : Int) (W : Int) b 6)))]) dX6_best_58 (by decide) rfl ?_
                  refine EV.iload (i := 7) dX6_best_60 rfl ?_
                  refine EV.iload_n (i := 3) dX6_best_62 rfl rfl ?_
                  refine EV.icmp_le (t := 79) dX6_best_63 (by decide) (by omega) (fun c63 => ?_) (fun c63 => ?_)
                  · skip
                    refine EV.iinc (i := 6) (lv' := [some (.ref (A 11)), some (.int (zI (b))), some (.int (zI (w))), some (.int (zI ((bsS F b (7 * W + u)).1))), some (.int (zI ((bsS F b (7 * W + u)).2))), some (.int (zI ((W : Int)))), some (.int (zI ((u : Int) + 1))), some (.int (zI (fsh F (u : Int) (W : Int) b 6)))]) dX6_best_79 rfl (by decide) rfl ?_
                    refine EV.goto (t := 36) dX6_best_82 (by decide) ?_
                    refine EV.drop 7 (lv' := [some (.ref (A 11)), some (.int (zI (b))), some (.int (zI (w))), some (.int (zI ((bsS F b (7 * W + u)).1))), some (.int (zI ((bsS F b (7 * W + u)).2))), some (.int (zI ((W : Int)))), some (.int (zI (((u : Int) + 1)))), none]) rfl ?_
                    exact ih36 (u + 1) _ _ _ (by omega) (by omega) (congrArg Prod.fst (bs_n (by omega) c63)) (congrArg Prod.snd (bs_n (by omega) c63)) (rfl)
                  · skip
                    refine EV.iload (i := 7) dX6_best_66 rfl ?_
                    refine EV.istore_n (i := 3) (lv' := [some (.ref (A 11)), some (.int (zI (b))), some (.int (zI (w))), some (.int (zI (fsh F (u : Int) (W : Int) b 6))), some (.int (zI ((bsS F b (7 * W + u)).2))), some (.int (zI ((W : Int)))), some (.int (zI ((u : Int)))), some (.int (zI (fsh F (u : Int) (W : Int) b 6)))]) dX6_best_68 rfl (by decide) rfl ?_
                    refine EV.bipush dX6_best_69 (by decide) ?_
                    refine EV.iload (i := 5) dX6_best_71 rfl ?_
                    refine EV.imul dX6_best_73 ?_
                    refine EV.iload (i := 6) dX6_best_74 rfl ?_
                    refine EV.iadd dX6_best_76 ?_
                    refine EV.istore (i := 4) (lv' := [some (.ref (A 11)), some (.int (zI (b))), some (.int (zI (w))), some (.int (zI (fsh F (u : Int) (W : Int) b 6))), some (.int (zI (((10 * (W : Int)) + (u : Int))))), some (.int (zI ((W : Int)))), some (.int (zI ((u : Int)))), some (.int (zI (fsh F (u : Int) (W : Int) b 6)))]) dX6_best_77 (by decide) rfl ?_
                    refine EV.iinc (i := 6) (lv' := [some (.ref (A 11)), some (.int (zI (b))), some (.int (zI (w))), some (.int (zI (fsh F (u : Int) (W : Int) b 6))), some (.int (zI (((10 * (W : Int)) + (u : Int))))), some (.int (zI ((W : Int)))), some (.int (zI ((u : Int) + 1))), some (.int (zI (fsh F (u : Int) (W : Int) b 6)))]) dX6_best_79 rfl (by decide) rfl ?_
                    refine EV.goto (t := 36) dX6_best_82 (by decide) ?_
                    refine EV.drop 7 (lv' := [some (.ref (A 11)), some (.int (zI (b))), some (.int (zI (w))), some (.int (zI (fsh F (u : Int) (W : Int) b 6))), some (.int (zI (((10 * (W : Int)) + (u : Int))))), some (.int (zI ((W : Int)))), some (.int (zI (((u : Int) + 1)))), none]) rfl ?_
                    exact ih36 (u + 1) _ _ _ (by omega) (by omega) (by rw [bs_y (by omega) (by omega)]) (by rw [bs_y (by omega) (by omega)]) (rfl)
            exact L36 _ 0 _ _ _ (by omega) (Nat.lt_succ_self _) (rfl) (rfl) (rfl)
      exact L27 _ 0 _ _ _ (by omega) (Nat.lt_succ_self _) (rfl) (rfl) (rfl)
    · skip
      have c12r := of_nrg c12
      refine EV.bipush dX6_best_15 (by decide) ?_
      refine EV.iret rfl dX6_best_17 ?_
      exact rQ (by simp [bestR, c4, c12])
set_option maxHeartbeats 4000000 in
set_option maxRecDepth 20000 in
theorem c_X6_feast (d : Nat) (hA : inA A N) (hK : WFK K) (hW : WF F) (hP : WFP P) (hT : WFT T) (t : Int) (ht : inR t) : CT G l mX6_feast (d + 4) 0 0 [.ref (A 11), .int (zI (t))] (HP G h A N (K, (F, P, T, V), O, im, IL) X) (fun o h' => o = some (.int (zI (feastR F t))) ∧ ∃ V' : Nat → Int, h' = HP G h A N (K, (F, P, T, V'), O, im, IL) X) := by
  refine CT.of (by decide) (Nat.le_of_ble_eq_true rfl) (List.forall_mem_cons.mpr ⟨rfl, List.forall_mem_cons.mpr ⟨rfl, fun _ h => absurd h List.not_mem_nil⟩⟩) ?_
  refine EV.lvs (lv' := [some (.ref (A 11)), some (.int (zI (t)))]) rfl ?_
  have g11 : (HP G h A N (K, (F, P, T, V), O, im, IL) X) (A 11) = some (obj 6 [.ref (A 12), .ref (A 14), .ref (A 26), .ref (A 27)]) := hGet hA _ _ 11 (by decide)
  have g14 : (HP G h A N (K, (F, P, T, V), O, im, IL) X) (A 14) = some (obj 1 [.ref (A 15), .ref (A 20), .ref (A 23)]) := hGet hA _ _ 14 (by decide)
  have g15 : (HP G h A N (K, (F, P, T, V), O, im, IL) X) (A 15) = some (obj 0 [.int (zI ((F.1 : Int))), .ref (A 16), .ref (A 17), .ref (A 18), .ref (A 19)]) := hGet hA _ _ 15 (by decide)
  have hK6 := hK.1
  have hP6 := hP.1
  have hT6 := hT.1
  have hth := hW.1
  have hF : FolkAt G (HP G h A N (K, (F, P, T, V), O, im, IL) X) F (A 15) (A 16) (A 17) (A 18) (A 19) V := hFolk hA
  refine EV.iload_n (i := 1) dX6_feast_0 rfl rfl ?_
  refine EV.callSr (M' := mX6_isDate) (as := [.int (zI (t))]) (rest := []) ml_X6_92 sm_X6_isDate co_X6_isDate dX6_feast_1 (c_X6_isDate (d + 2) t (by omega)) rfl rfl (Nat.le_of_ble_eq_true rfl) ?_
  refine EV.ifeqB (t := 21) dX6_feast_4 (by decide) (fun c4 => ?_) (fun c4 => ?_)
  · skip
    have c4r := of_nrg c4
    refine EV.bipush dX6_feast_21 (by decide) ?_
    refine EV.iret rfl dX6_feast_23 ?_
    exact ⟨by rw [feastR, if_neg (by rw [c4]; decide)], V, rfl⟩
  · skip
    have c4r := of_rg c4
    refine EV.aload_n (i := 0) dX6_feast_7 rfl rfl ?_
    refine EV.getf fl_X6_19 dX6_feast_8 g11 rfl ?_
    refine EV.getf fl_X6_56 dX6_feast_11 g14 rfl ?_
    refine EV.iload_n (i := 1) dX6_feast_14 rfl rfl ?_
    refine EV.callV (M' := mX0_feastOn) (as := [.int (zI (t))]) (rest := []) ml_X6_170 im_X0_feastOn se_X0_feastOn rfl co_X0_feastOn dX6_feast_15 g15 (c_X0_feastOn (d + 0) hF hW t (by omega)) rfl rfl (Nat.le_of_ble_eq_true rfl) (Nat.le_of_ble_eq_true rfl) (Nat.le_of_ble_eq_true rfl) (fun v15 h15 q15 => ?_)
    obtain ⟨rfl, V1, rfl⟩ := q15
    have hfi := ft_in F t
    refine EV.sts (st' := [.int (zI (ft F t))]) rfl ?_
    refine EV.hps (h' := HP G h A N (K, (F, P, T, V1), O, im, IL) X) (wV hA V1) ?_
    have g11 : (HP G h A N (K, (F, P, T, V1), O, im, IL) X) (A 11) = some (obj 6 [.ref (A 12), .ref (A 14), .ref (A 26), .ref (A 27)]) := hGet hA _ _ 11 (by decide)
    have g14 : (HP G h A N (K, (F, P, T, V1), O, im, IL) X) (A 14) = some (obj 1 [.ref (A 15), .ref (A 20), .ref (A 23)]) := hGet hA _ _ 14 (by decide)
    have g15 : (HP G h A N (K, (F, P, T, V1), O, im, IL) X) (A 15) = some (obj 0 [.int (zI ((F.1 : Int))), .ref (A 16), .ref (A 17), .ref (A 18), .ref (A 19)]) := hGet hA _ _ 15 (by decide)
    have hF : FolkAt G (HP G h A N (K, (F, P, T, V1), O, im, IL) X) F (A 15) (A 16) (A 17) (A 18) (A 19) V1 := hFolk hA
    refine EV.goto (t := 23) dX6_feast_18 (by decide) ?_
    refine EV.iret rfl dX6_feast_23 ?_
    exact ⟨by rw [feastR, if_pos c4], V1, rfl⟩
set_option maxHeartbeats 4000000 in
set_option maxRecDepth 20000 in
theorem c_X6_feasts (d : Nat) (hA : inA A N) (hK : WFK K) (hW : WF F) (hP : WFP P) (hT : WFT T) (D : Int) (hD : inR D) : CT G l mX6_feasts (d + 4) 0 0 [.ref (A 11), .int (zI (D))] (HP G h A N (K, (F, P, T, V), O, im, IL) X) (fun o h' => o = some (.int (zI (feastsR F D))) ∧ ∃ V' : Nat → Int, h' = HP G h A N (K, (F, P, T, V'), O, im, IL) X) := by
  refine CT.of (by decide) (Nat.le_of_ble_eq_true rfl) (List.forall_mem_cons.mpr ⟨rfl, List.forall_mem_cons.mpr ⟨rfl, fun _ h => absurd h List.not_mem_nil⟩⟩) ?_
  refine EV.lvs (lv' := [some (.ref (A 11)), some (.int (zI (D))), none, none]) rfl ?_
  have g11 : (HP G h A N (K, (F, P, T, V), O, im, IL) X) (A 11) = some (obj 6 [.ref (A 12), .ref (A 14), .ref (A 26), .ref (A 27)]) := hGet hA _ _ 11 (by decide)
  have g14 : (HP G h A N (K, (F, P, T, V), O, im, IL) X) (A 14) = some (obj 1 [.ref (A 15), .ref (A 20), .ref (A 23)]) := hGet hA _ _ 14 (by decide)
  have g15 : (HP G h A N (K, (F, P, T, V), O, im, IL) X) (A 15) = some (obj 0 [.int (zI ((F.1 : Int))), .ref (A 16), .ref (A 17), .ref (A 18), .ref (A 19)]) := hGet hA _ _ 15 (by decide)
  have hK6 := hK.1
  have hP6 := hP.1
  have hT6 := hT.1
  have hth := hW.1
  have hF : FolkAt G (HP G h A N (K, (F, P, T, V), O, im, IL) X) F (A 15) (A 16) (A 17) (A 18) (A 19) V := hFolk hA
  refine EV.iload_n (i := 1) dX6_feasts_0 rfl rfl ?_
  refine EV.bipush dX6_feasts_1 (by decide) ?_
  refine EV.callSr (M' := mX6_isOneOf) (as := [.int (zI (D)), .int (zI (8))]) (rest := []) ml_X6_42 sm_X6_isOneOf co_X6_isOneOf dX6_feasts_3 (c_X6_isOneOfL (d + 2) D 8 7 rfl (by omega) (by omega)) rfl rfl (Nat.le_of_ble_eq_true rfl) ?_
  refine EV.ifneB (t := 11) dX6_feasts_6 (by decide) (fun c6 => ?_) (fun c6 => ?_)
  · skip
    have c6r := of_rg c6
    refine EV.iconst dX6_feasts_11 ?_
    refine EV.istore_n (i := 2) (lv' := [some (.ref (A 11)), some (.int (zI (D))), some (.int (zI (0))), none]) dX6_feasts_12 rfl (by decide) rfl ?_
    refine EV.iconst dX6_feasts_13 ?_
    refine EV.istore_n (i := 3) (lv' := [some (.ref (A 11)), some (.int (zI (D))), some (.int (zI (0))), some (.int (zI (0)))]) dX6_feasts_14 rfl (by decide) rfl ?_
    have L15 : ∀ (n15 : Nat) (t : Nat) (V1 : Nat → Int) (x2 x3 : Int) (hh : Hp), (t ≤ 840) → 840 - t < n15 → x2 = ((cnt (fdB F D) t : Nat) : Int) → x3 = (t : Int) → hh = HP G h A N (K, (F, P, T, V1), O, im, IL) X → EV G l mX6_feasts (d + 4) (fun o h' => o = some (.int (zI (feastsR F D))) ∧ ∃ V' : Nat → Int, h' = HP G h A N (K, (F, P, T, V'), O, im, IL) X) 15 [some (.ref (A 11)), some (.int (zI (D))), some (.int (zI (x2))), some (.int (zI (x3)))] [] hh 0 0 := by
      intro n15
      induction n15 with
      | zero => intro _ _ _ _ _ _ hm; exact absurd hm (Nat.not_lt_zero _)
      | succ n15 ih15 =>
        intro t V1 x2 x3 hh ht hm15 e2 e3 eh
        subst e2 e3 eh
        have g11 : (HP G h A N (K, (F, P, T, V1), O, im, IL) X) (A 11) = some (obj 6 [.ref (A 12), .ref (A 14), .ref (A 26), .ref (A 27)]) := hGet hA _ _ 11 (by decide)
        have g14 : (HP G h A N (K, (F, P, T, V1), O, im, IL) X) (A 14) = some (obj 1 [.ref (A 15), .ref (A 20), .ref (A 23)]) := hGet hA _ _ 14 (by decide)
        have g15 : (HP G h A N (K, (F, P, T, V1), O, im, IL) X) (A 15) = some (obj 0 [.int (zI ((F.1 : Int))), .ref (A 16), .ref (A 17), .ref (A 18), .ref (A 19)]) := hGet hA _ _ 15 (by decide)
        have hF : FolkAt G (HP G h A N (K, (F, P, T, V1), O, im, IL) X) F (A 15) (A 16) (A 17) (A 18) (A 19) V1 := hFolk hA
        have hcl := cnt_le (fdB F D) t
        refine EV.iload_n (i := 3) dX6_feasts_15 rfl rfl ?_
        refine EV.sipush dX6_feasts_16 (by decide) ?_
        refine EV.icmp_ge (t := 46) dX6_feasts_19 (by decide) (by omega) (fun c19 => ?_) (fun c19 => ?_)
        · skip
          obtain rfl : t = 840 := by omega
          refine EV.iload_n (i := 2) dX6_feasts_46 rfl rfl ?_
          refine EV.iret rfl dX6_feasts_47 ?_
          exact ⟨by rw [feastsR, if_pos c6], V1, rfl⟩
        · skip
          refine EV.aload_n (i := 0) dX6_feasts_22 rfl rfl ?_
          refine EV.getf fl_X6_19 dX6_feasts_23 g11 rfl ?_
          refine EV.getf fl_X6_56 dX6_feasts_26 g14 rfl ?_
          refine EV.iload_n (i := 3) dX6_feasts_29 rfl rfl ?_
          refine EV.callV (M' := mX0_feastOn) (as := [.int (zI ((t : Int)))]) (rest := []) ml_X6_170 im_X0_feastOn se_X0_feastOn rfl co_X0_feastOn dX6_feasts_30 g15 (c_X0_feastOn (d + 0) hF hW (t : Int) (by omega)) rfl rfl (Nat.le_of_ble_eq_true rfl) (Nat.le_of_ble_eq_true rfl) (Nat.le_of_ble_eq_true rfl) (fun v30 h30 q30 => ?_)
          obtain ⟨rfl, V2, rfl⟩ := q30
          have hfi := ft_in F (t : Int)
          refine EV.sts (st' := [.int (zI (ft F (t : Int)))]) rfl ?_
          refine EV.hps (h' := HP G h A N (K, (F, P, T, V2), O, im, IL) X) (wV hA V2) ?_
          have g11 : (HP G h A N (K, (F, P, T, V2), O, im, IL) X) (A 11) = some (obj 6 [.ref (A 12), .ref (A 14), .ref (A 26), .ref (A 27)]) := hGet hA _ _ 11 (by decide)
          have g14 : (HP G h A N (K, (F, P, T, V2), O, im, IL) X) (A 14) = some (obj 1 [.ref (A 15), .ref (A 20), .ref (A 23)]) := hGet hA _ _ 14 (by decide)
          have g15 : (HP G h A N (K, (F, P, T, V2), O, im, IL) X) (A 15) = some (obj 0 [.int (zI ((F.1 : Int))), .ref (A 16), .ref (A 17), .ref (A 18), .ref (A 19)]) := hGet hA _ _ 15 (by decide)
          have hF : FolkAt G (HP G h A N (K, (F, P, T, V2), O, im, IL) X) F (A 15) (A 16) (A 17) (A 18) (A 19) V2 := hFolk hA
          refine EV.iload_n (i := 1) dX6_feasts_33 rfl rfl ?_
          refine EV.icmp_ne (t := 40) dX6_feasts_34 (by decide) (by omega) (fun c34 => ?_) (fun c34 => ?_)
          · skip
            refine EV.iinc (i := 3) (lv' := [some (.ref (A 11)), some (.int (zI (D))), some (.int (zI (((cnt (fdB F D) t : Nat) : Int)))), some (.int (zI ((t : Int) + 1)))]) dX6_feasts_40 rfl (by decide) rfl ?_
            refine EV.goto (t := 15) dX6_feasts_43 (by decide) ?_
            exact ih15 (t + 1) V2 _ _ _ (by omega) (by omega) (cnt_n (f := fdB F D) (decide_eq_false c34)) (rfl) (rfl)
          · skip
            refine EV.iinc (i := 2) (lv' := [some (.ref (A 11)), some (.int (zI (D))), some (.int (zI (((cnt (fdB F D) t : Nat) : Int) + 1))), some (.int (zI ((t : Int))))]) dX6_feasts_37 rfl (by decide) rfl ?_
            refine EV.iinc (i := 3) (lv' := [some (.ref (A 11)), some (.int (zI (D))), some (.int (zI ((((cnt (fdB F D) t : Nat) : Int) + 1)))), some (.int (zI ((t : Int) + 1)))]) dX6_feasts_40 rfl (by decide) rfl ?_
            refine EV.goto (t := 15) dX6_feasts_43 (by decide) ?_
            exact ih15 (t + 1) V2 _ _ _ (by omega) (by omega) (cnt_y (f := fdB F D) (decide_eq_true c34)) (rfl) (rfl)
    exact L15 _ 0 V _ _ _ (by omega) (Nat.lt_succ_self _) (rfl) (rfl) (rfl)
  · skip
    have c6r := of_nrg c6
    refine EV.iconst dX6_feasts_9 ?_
    refine EV.iret rfl dX6_feasts_10 ?_
    exact ⟨by rw [feastsR, if_neg (by rw [c6]; decide)], V, rfl⟩
set_option maxHeartbeats 4000000 in
set_option maxRecDepth 20000 in
theorem c_X6_poor (d : Nat) (hA : inA A N) (hK : WFK K) (hW : WF F) (hP : WFP P) (hT : WFT T)  : CT G l mX6_poor (d + 4) 0 0 [.ref (A 11)] (HP G h A N (K, (F, P, T, V), O, im, IL) X) (fun o h' => o = some (.int (zI (poorR F))) ∧ ∃ V' : Nat → Int, h' = HP G h A N (K, (F, P, T, V'), O, im, IL) X) := by
  refine CT.of (by decide) (Nat.le_of_ble_eq_true rfl) (List.forall_mem_cons.mpr ⟨rfl, fun _ h => absurd h List.not_mem_nil⟩) ?_
  refine EV.lvs (lv' := [some (.ref (A 11)), none, none]) rfl ?_
  have g11 : (HP G h A N (K, (F, P, T, V), O, im, IL) X) (A 11) = some (obj 6 [.ref (A 12), .ref (A 14), .ref (A 26), .ref (A 27)]) := hGet hA _ _ 11 (by decide)
  have g14 : (HP G h A N (K, (F, P, T, V), O, im, IL) X) (A 14) = some (obj 1 [.ref (A 15), .ref (A 20), .ref (A 23)]) := hGet hA _ _ 14 (by decide)
  have g15 : (HP G h A N (K, (F, P, T, V), O, im, IL) X) (A 15) = some (obj 0 [.int (zI ((F.1 : Int))), .ref (A 16), .ref (A 17), .ref (A 18), .ref (A 19)]) := hGet hA _ _ 15 (by decide)
  have hK6 := hK.1
  have hP6 := hP.1
  have hT6 := hT.1
  have hth := hW.1
  have hF : FolkAt G (HP G h A N (K, (F, P, T, V), O, im, IL) X) F (A 15) (A 16) (A 17) (A 18) (A 19) V := hFolk hA
  refine EV.aload_n (i := 0) dX6_poor_0 rfl rfl ?_
  refine EV.getf fl_X6_19 dX6_poor_1 g11 rfl ?_
  refine EV.getf fl_X6_56 dX6_poor_4 g14 rfl ?_
  refine EV.getf fl_X6_72 dX6_poor_7 g15 rfl ?_
  refine EV.istore_n (i := 1) (lv' := [some (.ref (A 11)), some (.int (zI ((F.1 : Int)))), none]) dX6_poor_10 rfl (by decide) rfl ?_
  refine EV.iconst dX6_poor_11 ?_
  refine EV.istore_n (i := 2) (lv' := [some (.ref (A 11)), some (.int (zI ((F.1 : Int)))), some (.int (zI (0)))]) dX6_poor_12 rfl (by decide) rfl ?_
  have L13 : ∀ (n13 : Nat) (t : Nat) (V1 : Nat → Int) (x1 x2 : Int) (hh : Hp), (t ≤ 840) → 840 - t < n13 → x1 = ((orb (poB F t) 6 : Nat) : Int) → x2 = (t : Int) → hh = HP G h A N (K, (F, P, T, V1), O, im, IL) X → EV G l mX6_poor (d + 4) (fun o h' => o = some (.int (zI (poorR F))) ∧ ∃ V' : Nat → Int, h' = HP G h A N (K, (F, P, T, V'), O, im, IL) X) 13 [some (.ref (A 11)), some (.int (zI (x1))), some (.int (zI (x2)))] [] hh 0 0 := by
    intro n13
    induction n13 with
    | zero => intro _ _ _ _ _ _ hm; exact absurd hm (Nat.not_lt_zero _)
    | succ n13 ih13 =>
      intro t V1 x1 x2 hh ht hm13 e1 e2 eh
      subst e1 e2 eh
      have g11 : (HP G h A N (K, (F, P, T, V1), O, im, IL) X) (A 11) = some (obj 6 [.ref (A 12), .ref (A 14), .ref (A 26), .ref (A 27)]) := hGet hA _ _ 11 (by decide)
      have g14 : (HP G h A N (K, (F, P, T, V1), O, im, IL) X) (A 14) = some (obj 1 [.ref (A 15), .ref (A 20), .ref (A 23)]) := hGet hA _ _ 14 (by decide)
      have g15 : (HP G h A N (K, (F, P, T, V1), O, im, IL) X) (A 15) = some (obj 0 [.int (zI ((F.1 : Int))), .ref (A 16), .ref (A 17), .ref (A 18), .ref (A 19)]) := hGet hA _ _ 15 (by decide)
      have hF : FolkAt G (HP G h A N (K, (F, P, T, V1), O, im, IL) X) F (A 15) (A 16) (A 17) (A 18) (A 19) V1 := hFolk hA
      have hpl := po_lt F t
      refine EV.iload_n (i := 2) dX6_poor_13 rfl rfl ?_
      refine EV.sipush dX6_poor_14 (by decide) ?_
      refine EV.icmp_ge (t := 57) dX6_poor_17 (by decide) (by omega) (fun c17 => ?_) (fun c17 => ?_)
      · skip
        obtain rfl : t = 840 := by omega
        refine EV.iload_n (i := 1) dX6_poor_57 rfl rfl ?_
        refine EV.iret rfl dX6_poor_58 ?_
        exact ⟨rfl, V1, rfl⟩
      · skip
        refine EV.iload_n (i := 1) dX6_poor_20 rfl rfl ?_
        refine EV.ifeq (t := 57) dX6_poor_21 (by decide) (by omega) (fun c21 => ?_) (fun c21 => ?_)
        · skip
          refine EV.iload_n (i := 1) dX6_poor_57 rfl rfl ?_
          refine EV.iret rfl dX6_poor_58 ?_
          exact ⟨congrArg (fun z : Nat => some (Value.int (zI (z : Int)))) ((by omega : orb (poB F t) 6 = 0).trans (po_z (F := F) (t := t) (by omega) ht)), V1, rfl⟩
        · skip
          have hft := ft_y (t := (t : Int)) hW (po_in (F := F) (t := t) (by omega))
          refine EV.iload_n (i := 1) dX6_poor_24 rfl rfl ?_
          refine EV.aload_n (i := 0) dX6_poor_25 rfl rfl ?_
          refine EV.getf fl_X6_19 dX6_poor_26 g11 rfl ?_
          refine EV.getf fl_X6_56 dX6_poor_29 g14 rfl ?_
          refine EV.aload_n (i := 0) dX6_poor_32 rfl rfl ?_
          refine EV.getf fl_X6_19 dX6_poor_33 g11 rfl ?_
          refine EV.getf fl_X6_56 dX6_poor_36 g14 rfl ?_
          refine EV.iload_n (i := 2) dX6_poor_39 rfl rfl ?_
          refine EV.callV (M' := mX0_feastOn) (as := [.int (zI ((t : Int)))]) (rest := [.ref (A 15), .int (zI (((orb (poB F t) 6 : Nat) : Int)))]) ml_X6_170 im_X0_feastOn se_X0_feastOn rfl co_X0_feastOn dX6_poor_40 g15 (c_X0_feastOn (d + 0) hF hW (t : Int) (by omega)) rfl rfl (Nat.le_of_ble_eq_true rfl) (Nat.le_of_ble_eq_true rfl) (Nat.le_of_ble_eq_true rfl) (fun v40 h40 q40 => ?_)
          obtain ⟨rfl, V2, rfl⟩ := q40
          have hfi := ft_in F (t : Int)
          refine EV.sts (st' := [.int (zI (ft F (t : Int))), .ref (A 15), .int (zI (((orb (poB F t) 6 : Nat) : Int)))]) rfl ?_
          refine EV.hps (h' := HP G h A N (K, (F, P, T, V2), O, im, IL) X) (wV hA V2) ?_
          have g11 : (HP G h A N (K, (F, P, T, V2), O, im, IL) X) (A 11) = some (obj 6 [.ref (A 12), .ref (A 14), .ref (A 26), .ref (A 27)]) := hGet hA _ _ 11 (by decide)
          have g14 : (HP G h A N (K, (F, P, T, V2), O, im, IL) X) (A 14) = some (obj 1 [.ref (A 15), .ref (A 20), .ref (A 23)]) := hGet hA _ _ 14 (by decide)
          have g15 : (HP G h A N (K, (F, P, T, V2), O, im, IL) X) (A 15) = some (obj 0 [.int (zI ((F.1 : Int))), .ref (A 16), .ref (A 17), .ref (A 18), .ref (A 19)]) := hGet hA _ _ 15 (by decide)
          have hF : FolkAt G (HP G h A N (K, (F, P, T, V2), O, im, IL) X) F (A 15) (A 16) (A 17) (A 18) (A 19) V2 := hFolk hA
          refine EV.iload_n (i := 2) dX6_poor_43 rfl rfl ?_
          refine EV.callVr (M' := mX0_having) (as := [.int (zI (ft F (t : Int))), .int (zI ((t : Int)))]) (rest := [.int (zI (((orb (poB F t) 6 : Nat) : Int)))]) ml_X6_99 im_X0_having se_X0_having rfl co_X0_having dX6_poor_44 g15 (c_X0_having (d + 0) hF hW (ft F (t : Int)) (t : Int) (by omega) (by omega)) rfl rfl (Nat.le_of_ble_eq_true rfl) ?_
          have hvl := hv_lt F (ft F (t : Int)) (t : Int)
          refine EV.iconst dX6_poor_47 ?_
          refine EV.ixorW dX6_poor_48 ?_
          refine EV.iandW dX6_poor_49 ?_
          refine EV.top (y := zI (((orb (poB F t) 6 &&& (63 ^^^ hv F (ft F (t : Int)) (t : Int)) : Nat) : Int))) (clr_g _ hpl _ (hv_lt F _ _)) ?_
          refine EV.istore_n (i := 1) (lv' := [some (.ref (A 11)), some (.int (zI (((orb (poB F t) 6 &&& (63 ^^^ hv F (ft F (t : Int)) (t : Int)) : Nat) : Int)))), some (.int (zI ((t : Int))))]) dX6_poor_50 rfl (by decide) rfl ?_
          refine EV.iinc (i := 2) (lv' := [some (.ref (A 11)), some (.int (zI (((orb (poB F t) 6 &&& (63 ^^^ hv F (ft F (t : Int)) (t : Int)) : Nat) : Int)))), some (.int (zI ((t : Int) + 1)))]) dX6_poor_51 rfl (by decide) rfl ?_
          refine EV.goto (t := 13) dX6_poor_54 (by decide) ?_
          exact ih13 (t + 1) V2 _ _ _ (by omega) (by omega) (by rw [po_s]) (rfl) (rfl)
  exact L13 _ 0 V _ _ _ (by omega) (Nat.lt_succ_self _) (by rw [← po_0 F hth]) (rfl) (rfl)
set_option maxHeartbeats 4000000 in
set_option maxRecDepth 20000 in
theorem c_X6_oneOrder (d : Nat) (hA : inA A N) (hK : WFK K) (hW : WF F) (hP : WFP P) (hT : WFT T) (z w : Int) (hz : inR z) (hw : inR w) : CT G l mX6_oneOrder (d + 7) 0 0 [.ref (A 11), .int (zI (z)), .int (zI (w))] (HP G h A N (K, (F, P, T, V), O, im, IL) X) (RQ (HP G h A N (K, (F, P, T, V), O, im, IL) X) (oneR F z w)) := by
  refine CT.of (by decide) (Nat.le_of_ble_eq_true rfl) (List.forall_mem_cons.mpr ⟨rfl, List.forall_mem_cons.mpr ⟨rfl, List.forall_mem_cons.mpr ⟨rfl, fun _ h => absurd h List.not_mem_nil⟩⟩⟩) ?_
  refine EV.lvs (lv' := [some (.ref (A 11)), some (.int (zI (z))), some (.int (zI (w)))]) rfl ?_
  have g11 : (HP G h A N (K, (F, P, T, V), O, im, IL) X) (A 11) = some (obj 6 [.ref (A 12), .ref (A 14), .ref (A 26), .ref (A 27)]) := hGet hA _ _ 11 (by decide)
  have g14 : (HP G h A N (K, (F, P, T, V), O, im, IL) X) (A 14) = some (obj 1 [.ref (A 15), .ref (A 20), .ref (A 23)]) := hGet hA _ _ 14 (by decide)
  have g15 : (HP G h A N (K, (F, P, T, V), O, im, IL) X) (A 15) = some (obj 0 [.int (zI ((F.1 : Int))), .ref (A 16), .ref (A 17), .ref (A 18), .ref (A 19)]) := hGet hA _ _ 15 (by decide)
  have hK6 := hK.1
  have hP6 := hP.1
  have hT6 := hT.1
  have hth := hW.1
  have hF : FolkAt G (HP G h A N (K, (F, P, T, V), O, im, IL) X) F (A 15) (A 16) (A 17) (A 18) (A 19) V := hFolk hA
  refine EV.aload_n (i := 0) dX6_oneOrder_0 rfl rfl ?_
  refine EV.iload_n (i := 1) dX6_oneOrder_1 rfl rfl ?_
  refine EV.callVr (M' := mX6_isThere) (as := [.int (zI (z))]) (rest := []) ml_X6_69 im_X6_isThere se_X6_isThere rfl co_X6_isThere dX6_oneOrder_2 g11 (c_X6_isThere (d + 3) hA hK hW hP hT z (by omega)) rfl rfl (Nat.le_of_ble_eq_true rfl) ?_
  refine EV.ifneB (t := 10) dX6_oneOrder_5 (by decide) (fun c5 => ?_) (fun c5 => ?_)
  · skip
    obtain ⟨p, hp, rfl, hbp⟩ := thI_p c5
    have hs : ∃ q, q < 6 ∧ F.1.testBit q = true := ⟨p, hp, hbp⟩
    refine EV.iload_n (i := 2) dX6_oneOrder_10 rfl rfl ?_
    refine EV.iconst dX6_oneOrder_11 ?_
    refine EV.callSr (M' := mX6_isOneOf) (as := [.int (zI (w)), .int (zI (2))]) (rest := []) ml_X6_42 sm_X6_isOneOf co_X6_isOneOf dX6_oneOrder_12 (c_X6_isOneOfL (d + 5) w 2 1 rfl (by omega) (by omega)) rfl rfl (Nat.le_of_ble_eq_true rfl) ?_
    refine EV.ifneB (t := 21) dX6_oneOrder_15 (by decide) (fun c15 => ?_) (fun c15 => ?_)
    · skip
      have c15r := of_rg c15
      refine EV.iload_n (i := 2) dX6_oneOrder_21 rfl rfl ?_
      refine EV.ifne (t := 38) dX6_oneOrder_22 (by decide) (by omega) (fun c22 => ?_) (fun c22 => ?_)
      · skip
        refine EV.aload_n (i := 0) dX6_oneOrder_38 rfl rfl ?_
        refine EV.getf fl_X6_19 dX6_oneOrder_39 g11 rfl ?_
        refine EV.getf fl_X6_56 dX6_oneOrder_42 g14 rfl ?_
        refine EV.iload_n (i := 1) dX6_oneOrder_45 rfl rfl ?_
        refine EV.callVr (M' := mX0_costOfAll) (as := [.int (zI ((p : Int)))]) (rest := []) ml_X6_176 im_X0_costOfAll se_X0_costOfAll rfl co_X0_costOfAll dX6_oneOrder_46 g15 (c_X0_costOfAll (d + 0) hF hW p hp hbp) rfl rfl (Nat.le_of_ble_eq_true rfl) ?_
        refine EV.iret rfl dX6_oneOrder_49 ?_
        exact rQ (by rw [oneR, if_pos c5, if_pos c15, if_neg c22, Int.toNat_natCast])
      · skip
        refine EV.aload_n (i := 0) dX6_oneOrder_25 rfl rfl ?_
        refine EV.getf fl_X6_19 dX6_oneOrder_26 g11 rfl ?_
        refine EV.getf fl_X6_56 dX6_oneOrder_29 g14 rfl ?_
        refine EV.callVr (M' := mX0_datesApart) (as := []) (rest := []) ml_X6_173 im_X0_datesApart se_X0_datesApart rfl co_X0_datesApart dX6_oneOrder_32 g15 (c_X0_datesApart (d + 2) hF hW hs) rfl rfl (Nat.le_of_ble_eq_true rfl) ?_
        refine EV.goto (t := 49) dX6_oneOrder_35 (by decide) ?_
        refine EV.iret rfl dX6_oneOrder_49 ?_
        exact rQ (by rw [oneR, if_pos c5, if_pos c15, if_pos c22])
    · skip
      have c15r := of_nrg c15
      refine EV.bipush dX6_oneOrder_18 (by decide) ?_
      refine EV.iret rfl dX6_oneOrder_20 ?_
      exact rQ (by rw [oneR, if_pos c5, if_neg (by rw [c15]; decide)])
  · skip
    refine EV.iconst dX6_oneOrder_8 ?_
    refine EV.iret rfl dX6_oneOrder_9 ?_
    exact rQ (by rw [oneR, if_neg (by rw [c5]; decide)])
set_option maxHeartbeats 4000000 in
set_option maxRecDepth 20000 in
theorem c_X6_seen (d : Nat) (hA : inA A N) (hK : WFK K) (hW : WF F) (hP : WFP P) (hT : WFT T) (t s : Int) (ht : inR t) (hs : inR s) : CT G l mX6_seen (d + 3) 0 0 [.ref (A 11), .int (zI (t)), .int (zI (s))] (HP G h A N (K, (F, P, T, V), O, im, IL) X) (fun o h' => o = some (.int (zI (seenR T t s))) ∧ h' = HP G h A N (K, (F, P, (seenT T t s), V), O, im, IL) X) := by
  refine CT.of (by decide) (Nat.le_of_ble_eq_true rfl) (List.forall_mem_cons.mpr ⟨rfl, List.forall_mem_cons.mpr ⟨rfl, List.forall_mem_cons.mpr ⟨rfl, fun _ h => absurd h List.not_mem_nil⟩⟩⟩) ?_
  refine EV.lvs (lv' := [some (.ref (A 11)), some (.int (zI (t))), some (.int (zI (s)))]) rfl ?_
  have g11 : (HP G h A N (K, (F, P, T, V), O, im, IL) X) (A 11) = some (obj 6 [.ref (A 12), .ref (A 14), .ref (A 26), .ref (A 27)]) := hGet hA _ _ 11 (by decide)
  have g14 : (HP G h A N (K, (F, P, T, V), O, im, IL) X) (A 14) = some (obj 1 [.ref (A 15), .ref (A 20), .ref (A 23)]) := hGet hA _ _ 14 (by decide)
  have g23 : (HP G h A N (K, (F, P, T, V), O, im, IL) X) (A 23) = some (obj 5 [.int (zI ((T.1 : Int))), .ref (A 24), .ref (A 25)]) := hGet hA _ _ 23 (by decide)
  have hK6 := hK.1
  have hP6 := hP.1
  have hT6 := hT.1
  have hth := hW.1
  have hF : FolkAt G (HP G h A N (K, (F, P, T, V), O, im, IL) X) F (A 15) (A 16) (A 17) (A 18) (A 19) V := hFolk hA
  refine EV.iload_n (i := 1) dX6_seen_0 rfl rfl ?_
  refine EV.callSr (M' := mX6_isDate) (as := [.int (zI (t))]) (rest := []) ml_X6_92 sm_X6_isDate co_X6_isDate dX6_seen_1 (c_X6_isDate (d + 1) t (by omega)) rfl rfl (Nat.le_of_ble_eq_true rfl) ?_
  refine EV.ifeqB (t := 15) dX6_seen_4 (by decide) (fun c4 => ?_) (fun c4 => ?_)
  · skip
    have c4r := of_nrg c4
    refine EV.bipush dX6_seen_15 (by decide) ?_
    refine EV.iret rfl dX6_seen_17 ?_
    exact ⟨by simp [seenR, c4], by simp [seenT, c4]⟩
  · skip
    have c4r := of_rg c4
    refine EV.iload_n (i := 2) dX6_seen_7 rfl rfl ?_
    refine EV.iconst dX6_seen_8 ?_
    refine EV.callSr (M' := mX6_isOneOf) (as := [.int (zI (s)), .int (zI (2))]) (rest := []) ml_X6_42 sm_X6_isOneOf co_X6_isOneOf dX6_seen_9 (c_X6_isOneOfL (d + 1) s 2 1 rfl (by omega) (by omega)) rfl rfl (Nat.le_of_ble_eq_true rfl) ?_
    refine EV.ifneB (t := 18) dX6_seen_12 (by decide) (fun c12 => ?_) (fun c12 => ?_)
    · skip
      have c12r := of_rg c12
      refine EV.aload_n (i := 0) dX6_seen_18 rfl rfl ?_
      refine EV.getf fl_X6_19 dX6_seen_19 g11 rfl ?_
      refine EV.getf fl_X6_179 dX6_seen_22 g14 rfl ?_
      refine EV.iload_n (i := 1) dX6_seen_25 rfl rfl ?_
      refine EV.iload_n (i := 2) dX6_seen_26 rfl rfl ?_
      refine EV.callV (M' := mX5_add) (as := [.int (zI (t)), .int (zI (s))]) (rest := []) ml_X6_183 im_X5_add se_X5_add rfl co_X5_add dX6_seen_27 g23 (c_X5_add (d + 0) hA t s (by omega)) rfl rfl (Nat.le_of_ble_eq_true rfl) (Nat.le_of_ble_eq_true rfl) (Nat.le_of_ble_eq_true rfl) (fun v27 h27 q27 => ?_)
      rcases q27 with ⟨h60, rfl, rfl⟩ | ⟨h60, rfl, rfl⟩
      · skip
        have g11 : (HP G h A N (K, (F, P, ((T.1 + 1), (uI T.2.1 T.1 t), (uI T.2.2 T.1 s)), V), O, im, IL) X) (A 11) = some (obj 6 [.ref (A 12), .ref (A 14), .ref (A 26), .ref (A 27)]) := hGet hA _ _ 11 (by decide)
        have g14 : (HP G h A N (K, (F, P, ((T.1 + 1), (uI T.2.1 T.1 t), (uI T.2.2 T.1 s)), V), O, im, IL) X) (A 14) = some (obj 1 [.ref (A 15), .ref (A 20), .ref (A 23)]) := hGet hA _ _ 14 (by decide)
        have g23 : (HP G h A N (K, (F, P, ((T.1 + 1), (uI T.2.1 T.1 t), (uI T.2.2 T.1 s)), V), O, im, IL) X) (A 23) = some (obj 5 [.int (zI (((T.1 + 1 : Nat) : Int))), .ref (A 24), .ref (A 25)]) := hGet hA _ _ 23 (by decide)
        refine EV.sts (st' := [.int (zI (1))]) rfl ?_
        refine EV.ifeq (t := 46) dX6_seen_30 (by decide) (by omega) (fun c30 => ?_) (fun c30 => ?_)
        · skip
          omega
        · skip
          refine EV.aload_n (i := 0) dX6_seen_33 rfl rfl ?_
          refine EV.getf fl_X6_19 dX6_seen_34 g11 rfl ?_
          refine EV.getf fl_X6_179 dX6_seen_37 g14 rfl ?_
          refine EV.getf fl_X6_187 dX6_seen_40 g23 rfl ?_
          refine EV.goto (t := 48) dX6_seen_43 (by decide) ?_
          refine EV.iret rfl dX6_seen_48 ?_
          exact ⟨by simp [seenR, c4, c12, h60], by simp [seenT, c4, c12, h60, addT]⟩
      · skip
        have g11 : (HP G h A N (K, (F, P, T, V), O, im, IL) X) (A 11) = some (obj 6 [.ref (A 12), .ref (A 14), .ref (A 26), .ref (A 27)]) := hGet hA _ _ 11 (by decide)
        have g14 : (HP G h A N (K, (F, P, T, V), O, im, IL) X) (A 14) = some (obj 1 [.ref (A 15), .ref (A 20), .ref (A 23)]) := hGet hA _ _ 14 (by decide)
        have g23 : (HP G h A N (K, (F, P, T, V), O, im, IL) X) (A 23) = some (obj 5 [.int (zI ((T.1 : Int))), .ref (A 24), .ref (A 25)]) := hGet hA _ _ 23 (by decide)
        refine EV.sts (st' := [.int (zI (0))]) rfl ?_
        refine EV.ifeq (t := 46) dX6_seen_30 (by decide) (by omega) (fun c30 => ?_) (fun c30 => ?_)
        · skip
          refine EV.bipush dX6_seen_46 (by decide) ?_
          refine EV.iret rfl dX6_seen_48 ?_
          exact ⟨by simp [seenR, c4, c12, Nat.not_lt.mpr h60], by simp [seenT, c4, c12, Nat.not_lt.mpr h60]⟩
        · skip
          omega
    · skip
      have c12r := of_nrg c12
      refine EV.bipush dX6_seen_15 (by decide) ?_
      refine EV.iret rfl dX6_seen_17 ?_
      exact ⟨by simp [seenR, c12], by simp [seenT, c12]⟩
set_option maxHeartbeats 4000000 in
set_option maxRecDepth 20000 in
theorem c_X6_forget (d : Nat) (hA : inA A N) (hK : WFK K) (hW : WF F) (hP : WFP P) (hT : WFT T)  : CT G l mX6_forget (d + 1) 0 0 [.ref (A 11)] (HP G h A N (K, (F, P, T, V), O, im, IL) X) (fun o h' => o = some (.int (zI (T.1 : Int))) ∧ h' = HP G h A N (K, (F, P, (0, T.2.1, T.2.2), V), O, im, IL) X) := by
  refine CT.of (by decide) (Nat.le_of_ble_eq_true rfl) (List.forall_mem_cons.mpr ⟨rfl, fun _ h => absurd h List.not_mem_nil⟩) ?_
  refine EV.lvs (lv' := [some (.ref (A 11)), none]) rfl ?_
  have g11 : (HP G h A N (K, (F, P, T, V), O, im, IL) X) (A 11) = some (obj 6 [.ref (A 12), .ref (A 14), .ref (A 26), .ref (A 27)]) := hGet hA _ _ 11 (by decide)
  have g14 : (HP G h A N (K, (F, P, T, V), O, im, IL) X) (A 14) = some (obj 1 [.ref (A 15), .ref (A 20), .ref (A 23)]) := hGet hA _ _ 14 (by decide)
  have g23 : (HP G h A N (K, (F, P, T, V), O, im, IL) X) (A 23) = some (obj 5 [.int (zI ((T.1 : Int))), .ref (A 24), .ref (A 25)]) := hGet hA _ _ 23 (by decide)
  have hK6 := hK.1
  have hP6 := hP.1
  have hT6 := hT.1
  have hth := hW.1
  have hF : FolkAt G (HP G h A N (K, (F, P, T, V), O, im, IL) X) F (A 15) (A 16) (A 17) (A 18) (A 19) V := hFolk hA
  refine EV.aload_n (i := 0) dX6_forget_0 rfl rfl ?_
  refine EV.getf fl_X6_19 dX6_forget_1 g11 rfl ?_
  refine EV.getf fl_X6_179 dX6_forget_4 g14 rfl ?_
  refine EV.getf fl_X6_187 dX6_forget_7 g23 rfl ?_
  refine EV.istore_n (i := 1) (lv' := [some (.ref (A 11)), some (.int (zI ((T.1 : Int))))]) dX6_forget_10 rfl (by decide) rfl ?_
  refine EV.aload_n (i := 0) dX6_forget_11 rfl rfl ?_
  refine EV.getf fl_X6_19 dX6_forget_12 g11 rfl ?_
  refine EV.getf fl_X6_179 dX6_forget_15 g14 rfl ?_
  refine EV.iconst dX6_forget_18 ?_
  refine EV.putf (fs' := [.int (zI (0)), .ref (A 24), .ref (A 25)]) fp_X6_187 dX6_forget_19 g23 (Nat.le_of_ble_eq_true rfl) rfl rfl rfl ?_
  refine EV.hps (h' := HP G h A N (K, (F, P, (0, T.2.1, T.2.2), V), O, im, IL) X) (wT1 hA 0) ?_
  have g11 : (HP G h A N (K, (F, P, (0, T.2.1, T.2.2), V), O, im, IL) X) (A 11) = some (obj 6 [.ref (A 12), .ref (A 14), .ref (A 26), .ref (A 27)]) := hGet hA _ _ 11 (by decide)
  have g14 : (HP G h A N (K, (F, P, (0, T.2.1, T.2.2), V), O, im, IL) X) (A 14) = some (obj 1 [.ref (A 15), .ref (A 20), .ref (A 23)]) := hGet hA _ _ 14 (by decide)
  have g23 : (HP G h A N (K, (F, P, (0, T.2.1, T.2.2), V), O, im, IL) X) (A 23) = some (obj 5 [.int (zI ((0 : Int))), .ref (A 24), .ref (A 25)]) := hGet hA _ _ 23 (by decide)
  refine EV.iload_n (i := 1) dX6_forget_22 rfl rfl ?_
  refine EV.iret rfl dX6_forget_23 ?_
  exact ⟨rfl, rfl⟩
set_option maxHeartbeats 4000000 in
set_option maxRecDepth 20000 in
theorem c_X6_whose (d : Nat) (hA : inA A N) (hK : WFK K) (hW : WF F) (hP : WFP P) (hT : WFT T) (i : Int) (hi : inR i) : CT G l mX6_whose (d + 4) 0 0 [.ref (A 11), .int (zI (i))] (HP G h A N (K, (F, P, T, V), O, im, IL) X) (RQ (HP G h A N (K, (F, P, T, V), O, im, IL) X) (whoseR F T i)) := by
  refine CT.of (by decide) (Nat.le_of_ble_eq_true rfl) (List.forall_mem_cons.mpr ⟨rfl, List.forall_mem_cons.mpr ⟨rfl, fun _ h => absurd h List.not_mem_nil⟩⟩) ?_
  refine EV.lvs (lv' := [some (.ref (A 11)), some (.int (zI (i))), none, none, none]) rfl ?_
  have g11 : (HP G h A N (K, (F, P, T, V), O, im, IL) X) (A 11) = some (obj 6 [.ref (A 12), .ref (A 14), .ref (A 26), .ref (A 27)]) := hGet hA _ _ 11 (by decide)
  have g14 : (HP G h A N (K, (F, P, T, V), O, im, IL) X) (A 14) = some (obj 1 [.ref (A 15), .ref (A 20), .ref (A 23)]) := hGet hA _ _ 14 (by decide)
  have hK6 := hK.1
  have hP6 := hP.1
  have hT6 := hT.1
  have hth := hW.1
  have hF : FolkAt G (HP G h A N (K, (F, P, T, V), O, im, IL) X) F (A 15) (A 16) (A 17) (A 18) (A 19) V := hFolk hA
  refine EV.iconst dX6_whose_0 ?_
  refine EV.istore_n (i := 2) (lv' := [some (.ref (A 11)), some (.int (zI (i))), some (.int (zI (0))), none, none]) dX6_whose_1 rfl (by decide) rfl ?_
  refine EV.iconst dX6_whose_2 ?_
  refine EV.istore_n (i := 3) (lv' := [some (.ref (A 11)), some (.int (zI (i))), some (.int (zI (0))), some (.int (zI (0))), none]) dX6_whose_3 rfl (by decide) rfl ?_
  have L4 : ∀ (n4 : Nat) (p : Nat) (n : Nat) (x2 x3 : Int), (p ≤ 6) → (n ≤ 8 * p) → (whoseR F T i = ith (wlF F T) i (wls p 0) n) → 6 - p < n4 → x2 = (n : Int) → x3 = (p : Int) → EV G l mX6_whose (d + 4) (RQ (HP G h A N (K, (F, P, T, V), O, im, IL) X) (whoseR F T i)) 4 [some (.ref (A 11)), some (.int (zI (i))), some (.int (zI (x2))), some (.int (zI (x3))), none] [] (HP G h A N (K, (F, P, T, V), O, im, IL) X) 0 0 := by
    intro n4
    induction n4 with
    | zero => intro _ _ _ _ _ _ _ hm; exact absurd hm (Nat.not_lt_zero _)
    | succ n4 ih4 =>
      intro p n x2 x3 hp hn hx hm4 e2 e3
      subst e2 e3
      refine EV.iload_n (i := 3) dX6_whose_4 rfl rfl ?_
      refine EV.bipush dX6_whose_5 (by decide) ?_
      refine EV.icmp_ge (t := 61) dX6_whose_7 (by decide) (by omega) (fun c7 => ?_) (fun c7 => ?_)
      · skip
        obtain rfl : p = 6 := by omega
        refine EV.iload_n (i := 1) dX6_whose_61 rfl rfl ?_
        refine EV.iconst dX6_whose_62 ?_
        refine EV.icmp_ne (t := 70) dX6_whose_63 (by decide) (by omega) (fun c63 => ?_) (fun c63 => ?_)
        · skip
          refine EV.bipush dX6_whose_70 (by decide) ?_
          refine EV.iret rfl dX6_whose_72 ?_
          exact rQ (by rw [ith_we hx, if_neg (by omega)])
        · skip
          refine EV.iload_n (i := 2) dX6_whose_66 rfl rfl ?_
          refine EV.goto (t := 72) dX6_whose_67 (by decide) ?_
          refine EV.iret rfl dX6_whose_72 ?_
          exact rQ (by rw [ith_we hx, if_pos (by omega)])
      · skip
        refine EV.iconst dX6_whose_10 ?_
        refine EV.istore (i := 4) (lv' := [some (.ref (A 11)), some (.int (zI (i))), some (.int (zI ((n : Int)))), some (.int (zI ((p : Int)))), some (.int (zI (0)))]) dX6_whose_11 (by decide) rfl ?_
        have L13 : ∀ (n13 : Nat) (q : Nat) (n1 : Nat) (x2 x4 : Int), (q ≤ 8) → (n1 ≤ 8 * p + q) → (whoseR F T i = ith (wlF F T) i (wls p q) n1) → 8 - q < n13 → x2 = (n1 : Int) → x4 = (q : Int) → EV G l mX6_whose (d + 4) (RQ (HP G h A N (K, (F, P, T, V), O, im, IL) X) (whoseR F T i)) 13 [some (.ref (A 11)), some (.int (zI (i))), some (.int (zI (x2))), some (.int (zI ((p : Int)))), some (.int (zI (x4)))] [] (HP G h A N (K, (F, P, T, V), O, im, IL) X) 0 0 := by
          intro n13
          induction n13 with
          | zero => intro _ _ _ _ _ _ _ hm; exact absurd hm (Nat.not_lt_zero _)
          | succ n13 ih13 =>
            intro q n1 x2 x4 hq hn1 hy hm13 e2 e4
            subst e2 e4
            refine EV.iload (i := 4) dX6_whose_13 rfl ?_
            refine EV.bipush dX6_whose_15 (by decide) ?_
            refine EV.icmp_ge (t := 55) dX6_whose_17 (by decide) (by omega) (fun c17 => ?_) (fun c17 => ?_)
            · skip
              obtain rfl : q = 8 := by omega
              refine EV.iinc (i := 3) (lv' := [some (.ref (A 11)), some (.int (zI (i))), some (.int (zI ((n1 : Int)))), some (.int (zI ((p : Int) + 1))), some (.int (zI (((8 : Nat) : Int))))]) dX6_whose_55 rfl (by decide) rfl ?_
              refine EV.goto (t := 4) dX6_whose_58 (by decide) ?_
              refine EV.drop 4 (lv' := [some (.ref (A 11)), some (.int (zI (i))), some (.int (zI ((n1 : Int)))), some (.int (zI (((p : Int) + 1)))), none]) rfl ?_
              exact ih4 (p + 1) n1 _ _ (by omega) (by omega) (ith_wr hy (by omega)) (by omega) (by rfl) (by rfl)
            · skip
              refine EV.aload_n (i := 0) dX6_whose_20 rfl rfl ?_
              refine EV.getf fl_X6_19 dX6_whose_21 g11 rfl ?_
              refine EV.iload_n (i := 3) dX6_whose_24 rfl rfl ?_
              refine EV.iload (i := 4) dX6_whose_25 rfl ?_
              refine EV.callVr (M' := mX1_fitsSights) (as := [.int (zI ((p : Int))), .int (zI ((q : Int)))]) (rest := []) ml_X6_188 im_X1_fitsSights se_X1_fitsSights rfl co_X1_fitsSights dX6_whose_27 g14 (c_X1_fitsSights (d + 0) hA hW hP hT p (q : Int) (by omega) (by omega)) rfl rfl (Nat.le_of_ble_eq_true rfl) ?_
              refine EV.ifeqB (t := 49) dX6_whose_30 (by decide) (fun c30 => ?_) (fun c30 => ?_)
              · skip
                refine EV.iinc (i := 4) (lv' := [some (.ref (A 11)), some (.int (zI (i))), some (.int (zI ((n1 : Int)))), some (.int (zI ((p : Int)))), some (.int (zI ((q : Int) + 1)))]) dX6_whose_49 rfl (by decide) rfl ?_
                refine EV.goto (t := 13) dX6_whose_52 (by decide) ?_
                exact ih13 (q + 1) n1 _ _ (by omega) (by omega) (ith_wn hy (by omega) (by omega) c30) (by omega) (by rfl) (by rfl)
              · skip
                refine EV.iload_n (i := 2) dX6_whose_33 rfl rfl ?_
                refine EV.iload_n (i := 1) dX6_whose_34 rfl rfl ?_
                refine EV.icmp_ne (t := 46) dX6_whose_35 (by decide) (by omega) (fun c35 => ?_) (fun c35 => ?_)
                · skip
                  refine EV.iinc (i := 2) (lv' := [some (.ref (A 11)), some (.int (zI (i))), some (.int (zI ((n1 : Int) + 1))), some (.int (zI ((p : Int)))), some (.int (zI ((q : Int))))]) dX6_whose_46 rfl (by decide) rfl ?_
                  refine EV.iinc (i := 4) (lv' := [some (.ref (A 11)), some (.int (zI (i))), some (.int (zI (((n1 : Int) + 1)))), some (.int (zI ((p : Int)))), some (.int (zI ((q : Int) + 1)))]) dX6_whose_49 rfl (by decide) rfl ?_
                  refine EV.goto (t := 13) dX6_whose_52 (by decide) ?_
                  exact ih13 (q + 1) (n1 + 1) _ _ (by omega) (by omega) (ith_wu hy (by omega) (by omega) c30 c35) (by omega) (by rfl) (by rfl)
                · skip
                  refine EV.bipush dX6_whose_38 (by decide) ?_
                  refine EV.iload_n (i := 3) dX6_whose_40 rfl rfl ?_
                  refine EV.imul dX6_whose_41 ?_
                  refine EV.iload (i := 4) dX6_whose_42 rfl ?_
                  refine EV.iadd dX6_whose_44 ?_
                  refine EV.iret rfl dX6_whose_45 ?_
                  exact rQ (ith_wy hy (by omega) (by omega) c30 c35).symm
        exact L13 _ 0 n _ _ (by omega) (by omega) (hx) (Nat.lt_succ_self _) (by rfl) (by rfl)
  exact L4 _ 0 0 _ _ (by omega) (by omega) (rfl) (Nat.lt_succ_self _) (by rfl) (by rfl)
set_option maxHeartbeats 4000000 in
set_option maxRecDepth 20000 in
theorem c_X6_sure (d : Nat) (hA : inA A N) (hK : WFK K) (hW : WF F) (hP : WFP P) (hT : WFT T) (t : Int) (ht : inR t) : CT G l mX6_sure (d + 4) 0 0 [.ref (A 11), .int (zI (t))] (HP G h A N (K, (F, P, T, V), O, im, IL) X) (RQ (HP G h A N (K, (F, P, T, V), O, im, IL) X) (sureR F T t)) := by
  refine CT.of (by decide) (Nat.le_of_ble_eq_true rfl) (List.forall_mem_cons.mpr ⟨rfl, List.forall_mem_cons.mpr ⟨rfl, fun _ h => absurd h List.not_mem_nil⟩⟩) ?_
  refine EV.lvs (lv' := [some (.ref (A 11)), some (.int (zI (t))), none, none, none, none]) rfl ?_
  have g11 : (HP G h A N (K, (F, P, T, V), O, im, IL) X) (A 11) = some (obj 6 [.ref (A 12), .ref (A 14), .ref (A 26), .ref (A 27)]) := hGet hA _ _ 11 (by decide)
  have g14 : (HP G h A N (K, (F, P, T, V), O, im, IL) X) (A 14) = some (obj 1 [.ref (A 15), .ref (A 20), .ref (A 23)]) := hGet hA _ _ 14 (by decide)
  have g15 : (HP G h A N (K, (F, P, T, V), O, im, IL) X) (A 15) = some (obj 0 [.int (zI ((F.1 : Int))), .ref (A 16), .ref (A 17), .ref (A 18), .ref (A 19)]) := hGet hA _ _ 15 (by decide)
  have hK6 := hK.1
  have hP6 := hP.1
  have hT6 := hT.1
  have hth := hW.1
  have hF : FolkAt G (HP G h A N (K, (F, P, T, V), O, im, IL) X) F (A 15) (A 16) (A 17) (A 18) (A 19) V := hFolk hA
  refine EV.iload_n (i := 1) dX6_sure_0 rfl rfl ?_
  refine EV.callSr (M' := mX6_isDate) (as := [.int (zI (t))]) (rest := []) ml_X6_92 sm_X6_isDate co_X6_isDate dX6_sure_1 (c_X6_isDate (d + 2) t (by omega)) rfl rfl (Nat.le_of_ble_eq_true rfl) ?_
  refine EV.ifneB (t := 10) dX6_sure_4 (by decide) (fun c4 => ?_) (fun c4 => ?_)
  · skip
    have c4r := of_rg c4
    refine EV.iconst dX6_sure_10 ?_
    refine EV.istore_n (i := 2) (lv' := [some (.ref (A 11)), some (.int (zI (t))), some (.int (zI (0))), none, none, none]) dX6_sure_11 rfl (by decide) rfl ?_
    refine EV.iconst dX6_sure_12 ?_
    refine EV.istore_n (i := 3) (lv' := [some (.ref (A 11)), some (.int (zI (t))), some (.int (zI (0))), some (.int (zI (0))), none, none]) dX6_sure_13 rfl (by decide) rfl ?_
    refine EV.iconst dX6_sure_14 ?_
    refine EV.istore (i := 4) (lv' := [some (.ref (A 11)), some (.int (zI (t))), some (.int (zI (0))), some (.int (zI (0))), some (.int (zI (0))), none]) dX6_sure_15 (by decide) rfl ?_
    have L17 : ∀ (n17 : Nat) (p : Nat) (x2 x3 x4 : Int), (p ≤ 6) → 6 - p < n17 → x2 = ((cnt (suA F T) (8 * p) : Nat) : Int) → x3 = ((cnt (suS F T t) (8 * p) : Nat) : Int) → x4 = (p : Int) → EV G l mX6_sure (d + 4) (RQ (HP G h A N (K, (F, P, T, V), O, im, IL) X) (sureR F T t)) 17 [some (.ref (A 11)), some (.int (zI (t))), some (.int (zI (x2))), some (.int (zI (x3))), some (.int (zI (x4))), none] [] (HP G h A N (K, (F, P, T, V), O, im, IL) X) 0 0 := by
      intro n17
      induction n17 with
      | zero => intro _ _ _ _ _ hm; exact absurd hm (Nat.not_lt_zero _)
      | succ n17 ih17 =>
        intro p x2 x3 x4 hp hm17 e2 e3 e4
        subst e2 e3 e4
        have hc1 := cnt_le (suA F T) (8 * p)
        have hc2 := cnt_le (suS F T t) (8 * p)
        refine EV.iload (i := 4) dX6_sure_17 rfl ?_
        refine EV.bipush dX6_sure_19 (by decide) ?_
        refine EV.icmp_ge (t := 89) dX6_sure_21 (by decide) (by omega) (fun c21 => ?_) (fun c21 => ?_)
        · skip
          obtain rfl : p = 6 := by omega
          have q1 : cnt (suA F T) (8 * 6) = cnt (suA F T) 48 := rfl
          have q2 : cnt (suS F T t) (8 * 6) = cnt (suS F T t) 48 := rfl
          have hx1 := cnt_le (suA F T) 48
          have hx2 := cnt_le (suS F T t) 48
          refine EV.iload_n (i := 2) dX6_sure_89 rfl rfl ?_
          refine EV.ifne (t := 96) dX6_sure_90 (by decide) (by omega) (fun c90 => ?_) (fun c90 => ?_)
          · skip
            refine EV.iload_n (i := 3) dX6_sure_96 rfl rfl ?_
            refine EV.ifne (t := 102) dX6_sure_97 (by decide) (by omega) (fun c97 => ?_) (fun c97 => ?_)
            · skip
              refine EV.iload_n (i := 3) dX6_sure_102 rfl rfl ?_
              refine EV.iload_n (i := 2) dX6_sure_103 rfl rfl ?_
              refine EV.icmp_ne (t := 111) dX6_sure_104 (by decide) (by omega) (fun c104 => ?_) (fun c104 => ?_)
              · skip
                refine EV.iconst dX6_sure_111 ?_
                refine EV.iret rfl dX6_sure_112 ?_
                exact rQ (by rw [sureR, if_pos c4, if_neg (by omega), if_neg (by omega), if_neg (by omega)])
              · skip
                refine EV.iconst dX6_sure_107 ?_
                refine EV.goto (t := 112) dX6_sure_108 (by decide) ?_
                refine EV.iret rfl dX6_sure_112 ?_
                exact rQ (by rw [sureR, if_pos c4, if_neg (by omega), if_neg (by omega), if_pos (by omega)])
            · skip
              refine EV.iconst dX6_sure_100 ?_
              refine EV.iret rfl dX6_sure_101 ?_
              exact rQ (by rw [sureR, if_pos c4, if_neg (by omega), if_pos (by omega)])
          · skip
            refine EV.bipush dX6_sure_93 (by decide) ?_
            refine EV.iret rfl dX6_sure_95 ?_
            exact rQ (by rw [sureR, if_pos c4, if_pos (by omega)])
        · skip
          refine EV.iconst dX6_sure_24 ?_
          refine EV.istore (i := 5) (lv' := [some (.ref (A 11)), some (.int (zI (t))), some (.int (zI (((cnt (suA F T) (8 * p) : Nat) : Int)))), some (.int (zI (((cnt (suS F T t) (8 * p) : Nat) : Int)))), some (.int (zI ((p : Int)))), some (.int (zI (0)))]) dX6_sure_25 (by decide) rfl ?_
          have L27 : ∀ (n27 : Nat) (q : Nat) (x2 x3 x5 : Int), (q ≤ 8) → 8 - q < n27 → x2 = ((cnt (suA F T) (8 * p + q) : Nat) : Int) → x3 = ((cnt (suS F T t) (8 * p + q) : Nat) : Int) → x5 = (q : Int) → EV G l mX6_sure (d + 4) (RQ (HP G h A N (K, (F, P, T, V), O, im, IL) X) (sureR F T t)) 27 [some (.ref (A 11)), some (.int (zI (t))), some (.int (zI (x2))), some (.int (zI (x3))), some (.int (zI ((p : Int)))), some (.int (zI (x5)))] [] (HP G h A N (K, (F, P, T, V), O, im, IL) X) 0 0 := by
            intro n27
            induction n27 with
            | zero => intro _ _ _ _ _ hm; exact absurd hm (Nat.not_lt_zero _)
            | succ n27 ih27 =>
              intro q x2 x3 x5 hq hm27 e2 e3 e5
              subst e2 e3 e5
              have hc1 := cnt_le (suA F T) (8 * p + q)
              have hc2 := cnt_le (suS F T t) (8 * p + q)
              refine EV.iload (i := 5) dX6_sure_27 rfl ?_
              refine EV.bipush dX6_sure_29 (by decide) ?_
              refine EV.icmp_ge (t := 83) dX6_sure_31 (by decide) (by omega) (fun c31 => ?_) (fun c31 => ?_)
              · skip
                obtain rfl : q = 8 := by omega
                refine EV.iinc (i := 4) (lv' := [some (.ref (A 11)), some (.int (zI (t))), some (.int (zI (((cnt (suA F T) (8 * p + (8 : Nat)) : Nat) : Int)))), some (.int (zI (((cnt (suS F T t) (8 * p + (8 : Nat)) : Nat) : Int)))), some (.int (zI ((p : Int) + 1))), some (.int (zI (((8 : Nat) : Int))))]) dX6_sure_83 rfl (by decide) rfl ?_
                refine EV.goto (t := 17) dX6_sure_86 (by decide) ?_
                refine EV.drop 5 (lv' := [some (.ref (A 11)), some (.int (zI (t))), some (.int (zI (((cnt (suA F T) (8 * p + (8 : Nat)) : Nat) : Int)))), some (.int (zI (((cnt (suS F T t) (8 * p + (8 : Nat)) : Nat) : Int)))), some (.int (zI (((p : Int) + 1)))), none]) rfl ?_
                exact ih17 (p + 1) _ _ _ (by omega) (by omega) (rfl) (rfl) (rfl)
              · skip
                refine EV.aload_n (i := 0) dX6_sure_34 rfl rfl ?_
                refine EV.getf fl_X6_19 dX6_sure_35 g11 rfl ?_
                refine EV.iload (i := 4) dX6_sure_38 rfl ?_
                refine EV.iload (i := 5) dX6_sure_40 rfl ?_
                refine EV.callVr (M' := mX1_fitsSights) (as := [.int (zI ((p : Int))), .int (zI ((q : Int)))]) (rest := []) ml_X6_188 im_X1_fitsSights se_X1_fitsSights rfl co_X1_fitsSights dX6_sure_42 g14 (c_X1_fitsSights (d + 0) hA hW hP hT p (q : Int) (by omega) (by omega)) rfl rfl (Nat.le_of_ble_eq_true rfl) ?_
                refine EV.ifeqB (t := 77) dX6_sure_45 (by decide) (fun c45 => ?_) (fun c45 => ?_)
                · skip
                  refine EV.iinc (i := 5) (lv' := [some (.ref (A 11)), some (.int (zI (t))), some (.int (zI (((cnt (suA F T) (8 * p + q) : Nat) : Int)))), some (.int (zI (((cnt (suS F T t) (8 * p + q) : Nat) : Int)))), some (.int (zI ((p : Int)))), some (.int (zI ((q : Int) + 1)))]) dX6_sure_77 rfl (by decide) rfl ?_
                  refine EV.goto (t := 27) dX6_sure_80 (by decide) ?_
                  exact ih27 (q + 1) _ _ _ (by omega) (by omega) (cnt_n (f := suA F T) (by rw [suA_e (by omega)]; exact c45)) (cnt_n (f := suS F T t) (by rw [suS_e (by omega), show wlF F T p q = false from c45]; rfl)) (rfl)
                · skip
                  have hb := wlF_b (show wlF F T p q = true from c45)
                  refine EV.iinc (i := 2) (lv' := [some (.ref (A 11)), some (.int (zI (t))), some (.int (zI (((cnt (suA F T) (8 * p + q) : Nat) : Int) + 1))), some (.int (zI (((cnt (suS F T t) (8 * p + q) : Nat) : Int)))), some (.int (zI ((p : Int)))), some (.int (zI ((q : Int))))]) dX6_sure_48 rfl (by decide) rfl ?_
                  refine EV.iload_n (i := 3) dX6_sure_51 rfl rfl ?_
                  refine EV.aload_n (i := 0) dX6_sure_52 rfl rfl ?_
                  refine EV.getf fl_X6_19 dX6_sure_53 g11 rfl ?_
                  refine EV.getf fl_X6_56 dX6_sure_56 g14 rfl ?_
                  refine EV.iload (i := 4) dX6_sure_59 rfl ?_
                  refine EV.iload_n (i := 1) dX6_sure_61 rfl rfl ?_
                  refine EV.callVr (M' := mX0_dayOn) (as := [.int (zI ((p : Int))), .int (zI (t))]) (rest := [.int (zI (((cnt (suS F T t) (8 * p + q) : Nat) : Int)))]) ml_X6_95 im_X0_dayOn se_X0_dayOn rfl co_X0_dayOn dX6_sure_62 g15 (c_X0_dayOn (d + 1) hF hW (p : Int) t (by omega) (by omega)) rfl rfl (Nat.le_of_ble_eq_true rfl) ?_
                  refine EV.top (y := zI (dy F p t)) (by rw [dn_y (by omega) hb]) ?_
                  have hr1 := hW.dy (p := p) (by omega) hb t
                  refine EV.iload (i := 5) dX6_sure_65 rfl ?_
                  refine EV.icmp_ne (t := 74) dX6_sure_67 (by decide) (by omega) (fun c67 => ?_) (fun c67 => ?_)
                  · skip
                    refine EV.iconst dX6_sure_74 ?_
                    refine EV.iadd dX6_sure_75 ?_
                    refine EV.istore_n (i := 3) (lv' := [some (.ref (A 11)), some (.int (zI (t))), some (.int (zI ((((cnt (suA F T) (8 * p + q) : Nat) : Int) + 1)))), some (.int (zI ((((cnt (suS F T t) (8 * p + q) : Nat) : Int) + 0)))), some (.int (zI ((p : Int)))), some (.int (zI ((q : Int))))]) dX6_sure_76 rfl (by decide) rfl ?_
                    refine EV.iinc (i := 5) (lv' := [some (.ref (A 11)), some (.int (zI (t))), some (.int (zI ((((cnt (suA F T) (8 * p + q) : Nat) : Int) + 1)))), some (.int (zI ((((cnt (suS F T t) (8 * p + q) : Nat) : Int) + 0)))), some (.int (zI ((p : Int)))), some (.int (zI ((q : Int) + 1)))]) dX6_sure_77 rfl (by decide) rfl ?_
                    refine EV.goto (t := 27) dX6_sure_80 (by decide) ?_
                    exact ih27 (q + 1) _ _ _ (by omega) (by omega) (cnt_y (f := suA F T) (by rw [suA_e (by omega)]; exact c45)) (by rw [Int.add_zero]; exact cnt_n (f := suS F T t) (by rw [suS_e (by omega), decide_eq_false c67, Bool.and_false])) (rfl)
                  · skip
                    refine EV.iconst dX6_sure_70 ?_
                    refine EV.goto (t := 75) dX6_sure_71 (by decide) ?_
                    refine EV.iadd dX6_sure_75 ?_
                    refine EV.istore_n (i := 3) (lv' := [some (.ref (A 11)), some (.int (zI (t))), some (.int (zI ((((cnt (suA F T) (8 * p + q) : Nat) : Int) + 1)))), some (.int (zI ((((cnt (suS F T t) (8 * p + q) : Nat) : Int) + 1)))), some (.int (zI ((p : Int)))), some (.int (zI ((q : Int))))]) dX6_sure_76 rfl (by decide) rfl ?_
                    refine EV.iinc (i := 5) (lv' := [some (.ref (A 11)), some (.int (zI (t))), some (.int (zI ((((cnt (suA F T) (8 * p + q) : Nat) : Int) + 1)))), some (.int (zI ((((cnt (suS F T t) (8 * p + q) : Nat) : Int) + 1)))), some (.int (zI ((p : Int)))), some (.int (zI ((q : Int) + 1)))]) dX6_sure_77 rfl (by decide) rfl ?_
                    refine EV.goto (t := 27) dX6_sure_80 (by decide) ?_
                    exact ih27 (q + 1) _ _ _ (by omega) (by omega) (cnt_y (f := suA F T) (by rw [suA_e (by omega)]; exact c45)) (cnt_y (f := suS F T t) (by rw [suS_e (by omega), show wlF F T p q = true from c45, decide_eq_true c67]; rfl)) (rfl)
          exact L27 _ 0 _ _ _ (by omega) (Nat.lt_succ_self _) (rfl) (rfl) (rfl)
    exact L17 _ 0 _ _ _ (by omega) (Nat.lt_succ_self _) (rfl) (rfl) (rfl)
  · skip
    have c4r := of_nrg c4
    refine EV.bipush dX6_sure_7 (by decide) ?_
    refine EV.iret rfl dX6_sure_9 ?_
    exact rQ (by rw [sureR, if_neg (by rw [c4]; decide)])
end
