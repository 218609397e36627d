theorem cnt0 {f : Nat → Bool} : ∀ {n : Nat}, cnt f n = 0 ↔ exn f n = false
  | 0 => ⟨fun _ => rfl, fun _ => rfl⟩
  | n + 1 => by
    rw [cnt_s, exn_s]
    have h := cnt0 (f := f) (n := n)
    cases hf : f n with
    | false => simp [h]
    | true => simp
theorem nv_s {F : FK} {p q : Nat} (hbp : F.1.testBit p = true) (hbq : F.1.testBit q = true) : nvF F p q = decide (shr F p q 840 = 0) := by
  unfold nvF shr
  rw [hbp, hbq]
  by_cases h : cnt (shB F p q) 840 = 0
  · rw [decide_eq_true h, cnt0.mp h]; rfl
  · rw [decide_eq_false h]
    cases he : exn (shB F p q) 840 with
    | false => exact absurd (cnt0.mpr he) h
    | true => rfl
theorem nv_0 {F : FK} {p q : Nat} (h : F.1.testBit p = false ∨ F.1.testBit q = false) : nvF F p q = false ∧ twF F p q = false := by
  unfold nvF twF
  rcases h with h | h <;> rw [h] <;> simp
theorem tw_s {F : FK} {p q : Nat} (hbp : F.1.testBit p = true) (hbq : F.1.testBit q = true) : twF F p q = (dl F p q (-1) || dl F p q 1) := by
  unfold twF twB
  rw [hbp, hbq, Bool.and_self, Bool.true_and]
theorem twI_f1 {F : FK} {z y : Int} (h : thI F z = false ∨ thI F y = false ∨ z = y) : twI F z y = false := by
  unfold twI
  rcases h with h | h | h
  · rw [h]; simp
  · rw [h]; simp
  · rw [decide_eq_true h]; rfl
theorem twI_t {F : FK} {z y : Int} (h1 : thI F z = true) (h2 : thI F y = true) (h3 : z ≠ y) : twI F z y = true := by
  unfold twI
  rw [h1, h2, decide_eq_false h3]; rfl
theorem fr6 {f g : Nat → Bool} {n p : Nat} (h : ∀ i, p ≤ i → i < p + n → f i = g i) : ffr f n p = ffr g n p := by
  induction n generalizing p with
  | zero => rfl
  | succ n ih =>
    unfold ffr
    rw [h p (Nat.le_refl _) (by omega), ih (fun i a b => h i (by omega) (by omega))]
/-- the common change so far, as the reference holds it -/
def cmF2 (o : Option (Int × Int)) : Int := match o with | none => 1000000 | some x => x.1
theorem cm_y2 {F : FK} {a : Nat} {t : Int} {L d : Nat} (ha : a < 64) (hd : d < 8) (h1 : (hv F (d : Int) (t + (L : Int)) : Int) ≠ 0) (h2 : (chgN F a (d : Int) (t + (L : Int)) : Int) < cmF2 (cmS F a t (8 * L + d))) : cmF2 (cmS F a t (8 * L + (d + 1))) = (chgN F a (d : Int) (t + (L : Int)) : Int) ∧ cmW (cmS F a t (8 * L + (d + 1))) = 100 * (L : Int) + (d : Int) := by
  have e := cm_idx (L := L) hd
  have : cmS F a t (8 * L + (d + 1)) = some ((chgN F a (d : Int) (t + (L : Int)) : Int), 100 * (L : Int) + (d : Int)) := by
    show cmS F a t ((8 * L + d) + 1) = _
    rw [cmS, e.1, e.2, if_pos]
    refine ⟨fun z => h1 (by rw [z]; rfl), fun x hx => ?_⟩
    rw [hx] at h2
    exact h2
  rw [this]; exact ⟨rfl, rfl⟩
theorem cm_n2 {F : FK} {a : Nat} {t : Int} {L d : Nat} (ha : a < 64) (hd : d < 8) (h : (hv F (d : Int) (t + (L : Int)) : Int) = 0 ∨ cmF2 (cmS F a t (8 * L + d)) ≤ (chgN F a (d : Int) (t + (L : Int)) : Int)) : cmS F a t (8 * L + d) = cmS F a t (8 * L + (d + 1)) := by
  refine cm_n ha hd ?_
  rcases h with h | h
  · exact Or.inl h
  · refine Or.inr ?_
    cases hc : cmS F a t (8 * L + d) with
    | none => rw [hc] at h; have := chgN_le (F := F) ha (d : Int) (t + (L : Int)); simp only [cmF2] at h; omega
    | some x => rw [hc] at h; exact h
theorem cmF2_in {F : FK} {a : Nat} {t : Int} (ha : a < 64) (n : Nat) : 0 ≤ cmF2 (cmS F a t n) ∧ cmF2 (cmS F a t n) ≤ 1000000 := by
  have h := (cmS_in (F := F) (t := t) ha n).1
  cases hc : cmS F a t n with
  | none => exact ⟨by decide, by decide⟩
  | some x => rw [hc] at h; exact ⟨h.1, Int.le_trans h.2 (by decide)⟩
theorem commonR_2 {F : FK} {a : Nat} {t w : Int} (hW : WF F) (h0 : ∃ q, q < 6 ∧ F.1.testBit q = true) (h1 : setB F (a : Int) = true) (h2 : rg t 0 9990 = true) (h3 : rg w 0 1 = true) : commonR F (a : Int) t w = if w = 0 then cmF2 (cmS F a t (8 * 7)) else cmW (cmS F a t (8 * 7)) := by
  rw [commonR_c hW h0 h1 h2 h3]
  cases hc : cmS F a t (8 * 7) with
  | some x => rfl
  | none =>
    have h := commonR_c (w := 0) hW h0 h1 h2 (by decide)
    rw [commonR, if_pos (by rw [h1, h2]; rfl), Int.toNat_natCast, show cmS F a t 56 = none from hc] at h
    exact absurd h (by decide)
theorem cd_neg {F : FK} {a : Nat} {t : Int} (h : cd F a t < 0) : cd F a t = -6 := by
  rcases cdn_in F a t 8 with h1 | h1
  · exact h1
  · have : 0 ≤ cd F a t := h1.1
    omega
theorem one_sub {a b p : Nat} (hsub : ∀ q, q < 6 → a.testBit q = true → b.testBit q = true) (hp : p < 6) (h : a.testBit p = true) : ∀ q, q < 6 → (2 ^ p).testBit q = true → b.testBit q = true := fun q hq hb => by
  rw [Nat.testBit_two_pow] at hb
  have e : p = q := of_decide_eq_true hb
  subst e
  exact hsub p hp h
theorem two_sub {a b p q : Nat} (hsub : ∀ q, q < 6 → a.testBit q = true → b.testBit q = true) (hp : p < 6) (hq : q < 6) (h : a.testBit p = true) (h2 : a.testBit q = true) : ∀ r, r < 6 → (2 ^ p ||| 2 ^ q).testBit r = true → b.testBit r = true := fun r hr hb => by
  rw [Nat.testBit_or, Bool.or_eq_true] at hb
  rcases hb with hb | hb
  · exact one_sub hsub hp h r hr hb
  · exact one_sub hsub hq h2 r hr hb
section
variable {G : GG} {l : Launch}
variable {h : Hp} {m : Nat} {A : Nat → Nat} {F : FK} {P : PL} {T : ST} {K : PD} {la im ik : Nat → Int}
set_option maxHeartbeats 4000000 in
set_option maxRecDepth 20000 in
theorem c_X7_orderFault (d : Nat) (hM : ModAt G h m A F P T K la im ik) (hW : WF F) (hK : WFK K) (hP : WFP P) (hT : WFT T)  : CT G l mX7_orderFault (d + 3) 0 0 [.ref m] h (RQ h (ofK K)) := by
  refine CT.of (by decide) (Nat.le_of_ble_eq_true rfl) (List.forall_mem_cons.mpr ⟨rfl, fun _ h => absurd h List.not_mem_nil⟩) ?_
  refine EV.lvs (lv' := [some (.ref m), none, none, none]) rfl ?_
  have ⟨hcm, hc0, hc1, hc2, hc3, hc4, hc5, hc6, hc7, hc8, hc9⟩ := hM
  have hth := hW.1
  have hK6 := hK.1
  have hP6 := hP.1
  have hT6 := hT.1
  have hsf : ∀ q, q < 6 → F.1.testBit q = true → F.1.testBit q = true := fun _ _ z => z
  refine EV.iconst dX7_orderFault_0 ?_
  refine EV.istore_n (i := 1) (lv' := [some (.ref m), some (.int (zI (0))), none, none]) dX7_orderFault_1 rfl (by decide) rfl ?_
  refine EV.iconst dX7_orderFault_2 ?_
  refine EV.istore_n (i := 2) (lv' := [some (.ref m), some (.int (zI (0))), some (.int (zI (0))), none]) dX7_orderFault_3 rfl (by decide) rfl ?_
  have L4 : ∀ (n4 : Nat) (k : Nat) (L : Nat) (x1 x2 : Int), (k ≤ K.1) → (L < 256) → (pop L = k) → (ofK K = ofr K (K.1 - k) k L) → K.1 - k < n4 → x1 = (L : Int) → x2 = (k : Int) → EV G l mX7_orderFault (d + 3) (RQ h (ofK K)) 4 [some (.ref m), some (.int (zI (x1))), some (.int (zI (x2))), none] [] h 0 0 := by
    intro n4
    induction n4 with
    | zero => intro _ _ _ _ _ _ _ _ hm; exact absurd hm (Nat.not_lt_zero _)
    | succ n4 ih4 =>
      intro k L x1 x2 hk hL hpo hx hm4 e1 e2
      subst e1 e2
      refine EV.iload_n (i := 2) dX7_orderFault_4 rfl rfl ?_
      refine EV.aload_n (i := 0) dX7_orderFault_5 rfl rfl ?_
      refine EV.getf fl_X7_53 dX7_orderFault_6 hcm rfl ?_
      refine EV.icmp_ge (t := 57) dX7_orderFault_9 (by decide) (by omega) (fun c9 => ?_) (fun c9 => ?_)
      · skip
        obtain rfl : k = K.1 := by omega
        refine EV.aload_n (i := 0) dX7_orderFault_57 rfl rfl ?_
        refine EV.getf fl_X7_53 dX7_orderFault_58 hcm rfl ?_
        refine EV.iconst dX7_orderFault_61 ?_
        refine EV.icmp_ge (t := 72) dX7_orderFault_62 (by decide) (by omega) (fun c62 => ?_) (fun c62 => ?_)
        · skip
          refine EV.bipush dX7_orderFault_72 (by decide) ?_
          refine EV.iret rfl dX7_orderFault_74 ?_
          exact rQ (by rw [ofr_e hx, if_neg (by omega)])
        · skip
          refine EV.aload_n (i := 0) dX7_orderFault_65 rfl rfl ?_
          refine EV.getf fl_X7_53 dX7_orderFault_66 hcm rfl ?_
          refine EV.goto (t := 74) dX7_orderFault_69 (by decide) ?_
          refine EV.iret rfl dX7_orderFault_74 ?_
          exact rQ (by rw [ofr_e hx, if_pos (by omega)])
      · skip
        have hsg := hK.2 k (by omega)
        refine EV.aload_n (i := 0) dX7_orderFault_12 rfl rfl ?_
        refine EV.getf fl_X7_28 dX7_orderFault_13 hcm rfl ?_
        refine EV.iload_n (i := 2) dX7_orderFault_16 rfl rfl ?_
        refine EV.iald dX7_orderFault_17 hc6 (k) (rfl) (by omega) ?_
        refine EV.bipush dX7_orderFault_18 (by decide) ?_
        refine EV.isub dX7_orderFault_20 ?_
        refine EV.istore_n (i := 3) (lv' := [some (.ref m), some (.int (zI ((L : Int)))), some (.int (zI ((k : Int)))), some (.int (zI ((K.2 k - 97))))]) dX7_orderFault_21 rfl (by decide) rfl ?_
        refine EV.iload_n (i := 2) dX7_orderFault_22 rfl rfl ?_
        refine EV.bipush dX7_orderFault_23 (by decide) ?_
        refine EV.icmp_eq (t := 43) dX7_orderFault_25 (by decide) (by omega) (fun c25 => ?_) (fun c25 => ?_)
        · skip
          refine EV.iload_n (i := 2) dX7_orderFault_43 rfl rfl ?_
          refine EV.iret rfl dX7_orderFault_44 ?_
          exact rQ (ofr_n hx (by omega) (okL_8 hL (by omega)))
        · skip
          refine EV.iload_n (i := 3) dX7_orderFault_28 rfl rfl ?_
          refine EV.callSr (M' := mX7_isDay) (as := [.int (zI ((K.2 k - 97)))]) (rest := []) ml_X7_56 sm_X7_isDay co_X7_isDay dX7_orderFault_29 (c_X7_isDay (d + 0) (K.2 k - 97) (by omega)) rfl rfl (Nat.le_of_ble_eq_true rfl) ?_
          refine EV.ifeqB (t := 43) dX7_orderFault_32 (by decide) (fun c32 => ?_) (fun c32 => ?_)
          · skip
            have c32r := of_nrg c32
            refine EV.iload_n (i := 2) dX7_orderFault_43 rfl rfl ?_
            refine EV.iret rfl dX7_orderFault_44 ?_
            exact rQ (ofr_n hx (by omega) (okL_1 (by omega)))
          · skip
            have c32r := of_rg c32
            obtain ⟨j, hj⟩ : ∃ j : Nat, K.2 k - 97 = (j : Int) := ⟨(K.2 k - 97).toNat, by omega⟩
            refine EV.lvs (lv' := [some (.ref m), some (.int (zI ((L : Int)))), some (.int (zI ((k : Int)))), some (.int (zI ((j : Int))))]) (by rw [hj]) ?_
            refine EV.iload_n (i := 1) dX7_orderFault_35 rfl rfl ?_
            refine EV.iload_n (i := 3) dX7_orderFault_36 rfl rfl ?_
            refine EV.callSr (M' := mX7_has) (as := [.int (zI ((L : Int))), .int (zI ((j : Int)))]) (rest := []) ml_X7_49 sm_X7_has co_X7_has dX7_orderFault_37 (c_X7_has (d + 1) L j (by omega) (by omega)) rfl rfl (Nat.le_of_ble_eq_true rfl) ?_
            refine EV.ifeqB (t := 45) dX7_orderFault_40 (by decide) (fun c40 => ?_) (fun c40 => ?_)
            · skip
              refine EV.iload_n (i := 1) dX7_orderFault_45 rfl rfl ?_
              refine EV.iconst dX7_orderFault_46 ?_
              refine EV.iload_n (i := 3) dX7_orderFault_47 rfl rfl ?_
              refine EV.ishlW dX7_orderFault_48 ?_
              refine EV.iorW dX7_orderFault_49 ?_
              refine EV.top (y := zI (((L ||| 2 ^ j : Nat) : Int))) (zI_orj (by omega)) ?_
              refine EV.istore_n (i := 1) (lv' := [some (.ref m), some (.int (zI (((L ||| 2 ^ j : Nat) : Int)))), some (.int (zI ((k : Int)))), some (.int (zI ((j : Int))))]) dX7_orderFault_50 rfl (by decide) rfl ?_
              refine EV.iinc (i := 2) (lv' := [some (.ref m), some (.int (zI (((L ||| 2 ^ j : Nat) : Int)))), some (.int (zI ((k : Int) + 1))), some (.int (zI ((j : Int))))]) dX7_orderFault_51 rfl (by decide) rfl ?_
              refine EV.goto (t := 4) dX7_orderFault_54 (by decide) ?_
              refine EV.drop 3 (lv' := [some (.ref m), some (.int (zI (((L ||| 2 ^ j : Nat) : Int)))), some (.int (zI (((k : Int) + 1)))), none]) rfl ?_
              exact ih4 (k + 1) (L ||| 2 ^ j) _ _ (by omega) (lor_lt8 hL (by omega)) (by rw [pop_more L hL j (by omega) c40, hpo]) (by have := ofr_y hx (by omega) (okL_3 hj (by omega) c40); rw [hj, Int.toNat_natCast] at this; exact this) (by omega) (by rfl) (by rfl)
            · skip
              refine EV.iload_n (i := 2) dX7_orderFault_43 rfl rfl ?_
              refine EV.iret rfl dX7_orderFault_44 ?_
              exact rQ (ofr_n hx (by omega) (okL_2 hj c40))
  exact L4 _ 0 0 _ _ (by omega) (by decide) (rfl) (rfl) (Nat.lt_succ_self _) (by rfl) (by rfl)
set_option maxHeartbeats 4000000 in
set_option maxRecDepth 20000 in
theorem c_X7_planFault (d : Nat) (hM : ModAt G h m A F P T K la im ik) (hW : WF F) (hK : WFK K) (hP : WFP P) (hT : WFT T)  : CT G l mX7_planFault (d + 3) 0 0 [.ref m] h (RQ h (pfK K)) := by
  refine CT.of (by decide) (Nat.le_of_ble_eq_true rfl) (List.forall_mem_cons.mpr ⟨rfl, fun _ h => absurd h List.not_mem_nil⟩) ?_
  refine EV.lvs (lv' := [some (.ref m), none, none, none, none, none]) rfl ?_
  have ⟨hcm, hc0, hc1, hc2, hc3, hc4, hc5, hc6, hc7, hc8, hc9⟩ := hM
  have hth := hW.1
  have hK6 := hK.1
  have hP6 := hP.1
  have hT6 := hT.1
  have hsf : ∀ q, q < 6 → F.1.testBit q = true → F.1.testBit q = true := fun _ _ z => z
  refine EV.iconst dX7_planFault_0 ?_
  refine EV.istore_n (i := 1) (lv' := [some (.ref m), some (.int (zI (0))), none, none, none, none]) dX7_planFault_1 rfl (by decide) rfl ?_
  refine EV.bipush dX7_planFault_2 (by decide) ?_
  refine EV.istore_n (i := 2) (lv' := [some (.ref m), some (.int (zI (0))), some (.int (zI ((-2)))), none, none, none]) dX7_planFault_4 rfl (by decide) rfl ?_
  refine EV.iconst dX7_planFault_5 ?_
  refine EV.istore_n (i := 3) (lv' := [some (.ref m), some (.int (zI (0))), some (.int (zI ((-2)))), some (.int (zI (0))), none, none]) dX7_planFault_6 rfl (by decide) rfl ?_
  have L7 : ∀ (n7 : Nat) (k : Nat) (w : Nat) (s : Int) (x1 x3 : Int), (k ≤ K.1) → (w ≤ 6) → (s = -2 ∨ (-1 ≤ s ∧ s ≤ 5)) → (pfK K = pfr K (K.1 - k) k w s) → K.1 - k < n7 → x1 = (w : Int) → x3 = (k : Int) → EV G l mX7_planFault (d + 3) (RQ h (pfK K)) 7 [some (.ref m), some (.int (zI (x1))), some (.int (zI (s))), some (.int (zI (x3))), none, none] [] h 0 0 := by
    intro n7
    induction n7 with
    | zero => intro _ _ _ _ _ _ _ _ _ hm; exact absurd hm (Nat.not_lt_zero _)
    | succ n7 ih7 =>
      intro k w s x1 x3 hk hw hs hx hm7 e1 e3
      subst e1 e3
      refine EV.iload_n (i := 3) dX7_planFault_7 rfl rfl ?_
      refine EV.aload_n (i := 0) dX7_planFault_8 rfl rfl ?_
      refine EV.getf fl_X7_53 dX7_planFault_9 hcm rfl ?_
      refine EV.icmp_ge (t := 128) dX7_planFault_12 (by decide) (by omega) (fun c12 => ?_) (fun c12 => ?_)
      · skip
        obtain rfl : k = K.1 := by omega
        refine EV.iload_n (i := 2) dX7_planFault_128 rfl rfl ?_
        refine EV.bipush dX7_planFault_129 (by decide) ?_
        refine EV.icmp_ne (t := 139) dX7_planFault_131 (by decide) (by omega) (fun c131 => ?_) (fun c131 => ?_)
        · skip
          refine EV.aload_n (i := 0) dX7_planFault_139 rfl rfl ?_
          refine EV.getf fl_X7_53 dX7_planFault_140 hcm rfl ?_
          refine EV.iret rfl dX7_planFault_143 ?_
          exact rQ (by rw [pfr_e hx, if_neg (by omega)])
        · skip
          refine EV.bipush dX7_planFault_134 (by decide) ?_
          refine EV.goto (t := 143) dX7_planFault_136 (by decide) ?_
          refine EV.iret rfl dX7_planFault_143 ?_
          exact rQ (by rw [pfr_e hx, if_pos (by omega)])
      · skip
        have hsg := hK.2 k (by omega)
        refine EV.aload_n (i := 0) dX7_planFault_15 rfl rfl ?_
        refine EV.getf fl_X7_28 dX7_planFault_16 hcm rfl ?_
        refine EV.iload_n (i := 3) dX7_planFault_19 rfl rfl ?_
        refine EV.iald dX7_planFault_20 hc6 (k) (rfl) (by omega) ?_
        refine EV.istore (i := 4) (lv' := [some (.ref m), some (.int (zI ((w : Int)))), some (.int (zI (s))), some (.int (zI ((k : Int)))), some (.int (zI (K.2 k))), none]) dX7_planFault_21 (by decide) rfl ?_
        refine EV.iload_n (i := 2) dX7_planFault_23 rfl rfl ?_
        refine EV.bipush dX7_planFault_24 (by decide) ?_
        refine EV.icmp_ne (t := 61) dX7_planFault_26 (by decide) (by omega) (fun c26 => ?_) (fun c26 => ?_)
        · skip
          refine EV.iload (i := 4) dX7_planFault_61 rfl ?_
          refine EV.bipush dX7_planFault_63 (by decide) ?_
          refine EV.icmp_ne (t := 81) dX7_planFault_65 (by decide) (by omega) (fun c65 => ?_) (fun c65 => ?_)
          · skip
            refine EV.iload (i := 4) dX7_planFault_81 rfl ?_
            refine EV.bipush dX7_planFault_83 (by decide) ?_
            refine EV.bipush dX7_planFault_85 (by decide) ?_
            refine EV.callSr (M' := mX7_in) (as := [.int (zI (K.2 k)), .int (zI (48)), .int (zI (53))]) (rest := []) ml_X7_45 sm_X7_in co_X7_in dX7_planFault_87 (c_X7_in (d + 1) (K.2 k) 48 53 (by omega) (by omega) (by omega)) rfl rfl (Nat.le_of_ble_eq_true rfl) ?_
            refine EV.ifeqB (t := 106) dX7_planFault_90 (by decide) (fun c90 => ?_) (fun c90 => ?_)
            · skip
              have c90r := of_nrg c90
              refine EV.iconst dX7_planFault_106 ?_
              refine EV.istore (i := 5) (lv' := [some (.ref m), some (.int (zI ((w : Int)))), some (.int (zI (s))), some (.int (zI ((k : Int)))), some (.int (zI (K.2 k))), some (.int (zI (0)))]) dX7_planFault_107 (by decide) rfl ?_
              refine EV.iload (i := 4) dX7_planFault_109 rfl ?_
              refine EV.bipush dX7_planFault_111 (by decide) ?_
              refine EV.isub dX7_planFault_113 ?_
              refine EV.istore_n (i := 2) (lv' := [some (.ref m), some (.int (zI ((w : Int)))), some (.int (zI ((K.2 k - 48)))), some (.int (zI ((k : Int)))), some (.int (zI (K.2 k))), some (.int (zI (0)))]) dX7_planFault_114 rfl (by decide) rfl ?_
              refine EV.iload (i := 5) dX7_planFault_115 rfl ?_
              refine EV.ifne (t := 122) dX7_planFault_117 (by decide) (by omega) (fun c117 => ?_) (fun c117 => ?_)
              · skip
                omega
              · skip
                refine EV.iload_n (i := 3) dX7_planFault_120 rfl rfl ?_
                refine EV.iret rfl dX7_planFault_121 ?_
                exact rQ (pfr_n hx (by omega) (pfn_5 (by omega) (by omega) (by omega)))
            · skip
              have c90r := of_rg c90
              refine EV.iload (i := 4) dX7_planFault_93 rfl ?_
              refine EV.bipush dX7_planFault_95 (by decide) ?_
              refine EV.isub dX7_planFault_97 ?_
              refine EV.iload_n (i := 2) dX7_planFault_98 rfl rfl ?_
              refine EV.icmp_le (t := 106) dX7_planFault_99 (by decide) (by omega) (fun c99 => ?_) (fun c99 => ?_)
              · skip
                refine EV.iconst dX7_planFault_106 ?_
                refine EV.istore (i := 5) (lv' := [some (.ref m), some (.int (zI ((w : Int)))), some (.int (zI (s))), some (.int (zI ((k : Int)))), some (.int (zI (K.2 k))), some (.int (zI (0)))]) dX7_planFault_107 (by decide) rfl ?_
                refine EV.iload (i := 4) dX7_planFault_109 rfl ?_
                refine EV.bipush dX7_planFault_111 (by decide) ?_
                refine EV.isub dX7_planFault_113 ?_
                refine EV.istore_n (i := 2) (lv' := [some (.ref m), some (.int (zI ((w : Int)))), some (.int (zI ((K.2 k - 48)))), some (.int (zI ((k : Int)))), some (.int (zI (K.2 k))), some (.int (zI (0)))]) dX7_planFault_114 rfl (by decide) rfl ?_
                refine EV.iload (i := 5) dX7_planFault_115 rfl ?_
                refine EV.ifne (t := 122) dX7_planFault_117 (by decide) (by omega) (fun c117 => ?_) (fun c117 => ?_)
                · skip
                  omega
                · skip
                  refine EV.iload_n (i := 3) dX7_planFault_120 rfl rfl ?_
                  refine EV.iret rfl dX7_planFault_121 ?_
                  exact rQ (pfr_n hx (by omega) (pfn_5 (by omega) (by omega) (by omega)))
              · skip
                refine EV.iconst dX7_planFault_102 ?_
                refine EV.goto (t := 107) dX7_planFault_103 (by decide) ?_
                refine EV.istore (i := 5) (lv' := [some (.ref m), some (.int (zI ((w : Int)))), some (.int (zI (s))), some (.int (zI ((k : Int)))), some (.int (zI (K.2 k))), some (.int (zI (1)))]) dX7_planFault_107 (by decide) rfl ?_
                refine EV.iload (i := 4) dX7_planFault_109 rfl ?_
                refine EV.bipush dX7_planFault_111 (by decide) ?_
                refine EV.isub dX7_planFault_113 ?_
                refine EV.istore_n (i := 2) (lv' := [some (.ref m), some (.int (zI ((w : Int)))), some (.int (zI ((K.2 k - 48)))), some (.int (zI ((k : Int)))), some (.int (zI (K.2 k))), some (.int (zI (1)))]) dX7_planFault_114 rfl (by decide) rfl ?_
                refine EV.iload (i := 5) dX7_planFault_115 rfl ?_
                refine EV.ifne (t := 122) dX7_planFault_117 (by decide) (by omega) (fun c117 => ?_) (fun c117 => ?_)
                · skip
                  refine EV.iinc (i := 3) (lv' := [some (.ref m), some (.int (zI ((w : Int)))), some (.int (zI ((K.2 k - 48)))), some (.int (zI ((k : Int) + 1))), some (.int (zI (K.2 k))), some (.int (zI (1)))]) dX7_planFault_122 rfl (by decide) rfl ?_
                  refine EV.goto (t := 7) dX7_planFault_125 (by decide) ?_
                  refine EV.drop 4 (lv' := [some (.ref m), some (.int (zI ((w : Int)))), some (.int (zI ((K.2 k - 48)))), some (.int (zI (((k : Int) + 1)))), none, some (.int (zI (1)))]) rfl ?_
                  refine EV.drop 5 (lv' := [some (.ref m), some (.int (zI ((w : Int)))), some (.int (zI ((K.2 k - 48)))), some (.int (zI (((k : Int) + 1)))), none, none]) rfl ?_
                  exact ih7 (k + 1) w _ _ _ (by omega) (by omega) (by omega) (pfr_y hx (by omega) (pfn_4 (by omega) (by omega) (by omega))) (by omega) (by rfl) (by rfl)
                · skip
                  omega
          · skip
            refine EV.iload_n (i := 2) dX7_planFault_68 rfl rfl ?_
            refine EV.iflt (t := 81) dX7_planFault_69 (by decide) (by omega) (fun c69 => ?_) (fun c69 => ?_)
            · skip
              refine EV.iload (i := 4) dX7_planFault_81 rfl ?_
              refine EV.bipush dX7_planFault_83 (by decide) ?_
              refine EV.bipush dX7_planFault_85 (by decide) ?_
              refine EV.callSr (M' := mX7_in) (as := [.int (zI (K.2 k)), .int (zI (48)), .int (zI (53))]) (rest := []) ml_X7_45 sm_X7_in co_X7_in dX7_planFault_87 (c_X7_in (d + 1) (K.2 k) 48 53 (by omega) (by omega) (by omega)) rfl rfl (Nat.le_of_ble_eq_true rfl) ?_
              refine EV.ifeqB (t := 106) dX7_planFault_90 (by decide) (fun c90 => ?_) (fun c90 => ?_)
              · skip
                have c90r := of_nrg c90
                refine EV.iconst dX7_planFault_106 ?_
                refine EV.istore (i := 5) (lv' := [some (.ref m), some (.int (zI ((w : Int)))), some (.int (zI (s))), some (.int (zI ((k : Int)))), some (.int (zI (K.2 k))), some (.int (zI (0)))]) dX7_planFault_107 (by decide) rfl ?_
                refine EV.iload (i := 4) dX7_planFault_109 rfl ?_
                refine EV.bipush dX7_planFault_111 (by decide) ?_
                refine EV.isub dX7_planFault_113 ?_
                refine EV.istore_n (i := 2) (lv' := [some (.ref m), some (.int (zI ((w : Int)))), some (.int (zI ((K.2 k - 48)))), some (.int (zI ((k : Int)))), some (.int (zI (K.2 k))), some (.int (zI (0)))]) dX7_planFault_114 rfl (by decide) rfl ?_
                refine EV.iload (i := 5) dX7_planFault_115 rfl ?_
                refine EV.ifne (t := 122) dX7_planFault_117 (by decide) (by omega) (fun c117 => ?_) (fun c117 => ?_)
                · skip
                  omega
                · skip
                  refine EV.iload_n (i := 3) dX7_planFault_120 rfl rfl ?_
                  refine EV.iret rfl dX7_planFault_121 ?_
                  exact rQ (pfr_n hx (by omega) (pfn_5 (by omega) (by omega) (by omega)))
              · skip
                have c90r := of_rg c90
                omega
            · skip
              refine EV.iconst dX7_planFault_72 ?_
              refine EV.istore (i := 5) (lv' := [some (.ref m), some (.int (zI ((w : Int)))), some (.int (zI (s))), some (.int (zI ((k : Int)))), some (.int (zI (K.2 k))), some (.int (zI (1)))]) dX7_planFault_73 (by decide) rfl ?_
              refine EV.bipush dX7_planFault_75 (by decide) ?_
              refine EV.istore_n (i := 2) (lv' := [some (.ref m), some (.int (zI ((w : Int)))), some (.int (zI ((-2)))), some (.int (zI ((k : Int)))), some (.int (zI (K.2 k))), some (.int (zI (1)))]) dX7_planFault_77 rfl (by decide) rfl ?_
              refine EV.goto (t := 115) dX7_planFault_78 (by decide) ?_
              refine EV.iload (i := 5) dX7_planFault_115 rfl ?_
              refine EV.ifne (t := 122) dX7_planFault_117 (by decide) (by omega) (fun c117 => ?_) (fun c117 => ?_)
              · skip
                refine EV.iinc (i := 3) (lv' := [some (.ref m), some (.int (zI ((w : Int)))), some (.int (zI ((-2)))), some (.int (zI ((k : Int) + 1))), some (.int (zI (K.2 k))), some (.int (zI (1)))]) dX7_planFault_122 rfl (by decide) rfl ?_
                refine EV.goto (t := 7) dX7_planFault_125 (by decide) ?_
                refine EV.drop 4 (lv' := [some (.ref m), some (.int (zI ((w : Int)))), some (.int (zI ((-2)))), some (.int (zI (((k : Int) + 1)))), none, some (.int (zI (1)))]) rfl ?_
                refine EV.drop 5 (lv' := [some (.ref m), some (.int (zI ((w : Int)))), some (.int (zI ((-2)))), some (.int (zI (((k : Int) + 1)))), none, none]) rfl ?_
                exact ih7 (k + 1) w _ _ _ (by omega) (by omega) (Or.inl rfl) (pfr_y hx (by omega) (pfn_3 (by omega) (by omega))) (by omega) (by rfl) (by rfl)
              · skip
                omega
        · skip
          refine EV.iload (i := 4) dX7_planFault_29 rfl ?_
          refine EV.bipush dX7_planFault_31 (by decide) ?_
          refine EV.isub dX7_planFault_33 ?_
          refine EV.callSr (M' := mX7_isDay) (as := [.int (zI ((K.2 k - 97)))]) (rest := []) ml_X7_56 sm_X7_isDay co_X7_isDay dX7_planFault_34 (c_X7_isDay (d + 0) (K.2 k - 97) (by omega)) rfl rfl (Nat.le_of_ble_eq_true rfl) ?_
          refine EV.ifeqB (t := 50) dX7_planFault_37 (by decide) (fun c37 => ?_) (fun c37 => ?_)
          · skip
            have c37r := of_nrg c37
            refine EV.iconst dX7_planFault_50 ?_
            refine EV.istore (i := 5) (lv' := [some (.ref m), some (.int (zI ((w : Int)))), some (.int (zI (s))), some (.int (zI ((k : Int)))), some (.int (zI (K.2 k))), some (.int (zI (0)))]) dX7_planFault_51 (by decide) rfl ?_
            refine EV.iconst dX7_planFault_53 ?_
            refine EV.istore_n (i := 2) (lv' := [some (.ref m), some (.int (zI ((w : Int)))), some (.int (zI ((-1)))), some (.int (zI ((k : Int)))), some (.int (zI (K.2 k))), some (.int (zI (0)))]) dX7_planFault_54 rfl (by decide) rfl ?_
            refine EV.iinc (i := 1) (lv' := [some (.ref m), some (.int (zI ((w : Int) + 1))), some (.int (zI ((-1)))), some (.int (zI ((k : Int)))), some (.int (zI (K.2 k))), some (.int (zI (0)))]) dX7_planFault_55 rfl (by decide) rfl ?_
            refine EV.goto (t := 115) dX7_planFault_58 (by decide) ?_
            refine EV.iload (i := 5) dX7_planFault_115 rfl ?_
            refine EV.ifne (t := 122) dX7_planFault_117 (by decide) (by omega) (fun c117 => ?_) (fun c117 => ?_)
            · skip
              omega
            · skip
              refine EV.iload_n (i := 3) dX7_planFault_120 rfl rfl ?_
              refine EV.iret rfl dX7_planFault_121 ?_
              exact rQ (pfr_n hx (by omega) (by obtain rfl : s = -2 := (by omega); exact pfn_2 (by omega)))
          · skip
            have c37r := of_rg c37
            refine EV.iload_n (i := 1) dX7_planFault_40 rfl rfl ?_
            refine EV.bipush dX7_planFault_41 (by decide) ?_
            refine EV.icmp_ge (t := 50) dX7_planFault_43 (by decide) (by omega) (fun c43 => ?_) (fun c43 => ?_)
            · skip
              refine EV.iconst dX7_planFault_50 ?_
              refine EV.istore (i := 5) (lv' := [some (.ref m), some (.int (zI ((w : Int)))), some (.int (zI (s))), some (.int (zI ((k : Int)))), some (.int (zI (K.2 k))), some (.int (zI (0)))]) dX7_planFault_51 (by decide) rfl ?_
              refine EV.iconst dX7_planFault_53 ?_
              refine EV.istore_n (i := 2) (lv' := [some (.ref m), some (.int (zI ((w : Int)))), some (.int (zI ((-1)))), some (.int (zI ((k : Int)))), some (.int (zI (K.2 k))), some (.int (zI (0)))]) dX7_planFault_54 rfl (by decide) rfl ?_
              refine EV.iinc (i := 1) (lv' := [some (.ref m), some (.int (zI ((w : Int) + 1))), some (.int (zI ((-1)))), some (.int (zI ((k : Int)))), some (.int (zI (K.2 k))), some (.int (zI (0)))]) dX7_planFault_55 rfl (by decide) rfl ?_
              refine EV.goto (t := 115) dX7_planFault_58 (by decide) ?_
              refine EV.iload (i := 5) dX7_planFault_115 rfl ?_
              refine EV.ifne (t := 122) dX7_planFault_117 (by decide) (by omega) (fun c117 => ?_) (fun c117 => ?_)
              · skip
                omega
              · skip
                refine EV.iload_n (i := 3) dX7_planFault_120 rfl rfl ?_
                refine EV.iret rfl dX7_planFault_121 ?_
                exact rQ (pfr_n hx (by omega) (by obtain rfl : s = -2 := (by omega); exact pfn_2 (by omega)))
            · skip
              refine EV.iconst dX7_planFault_46 ?_
              refine EV.goto (t := 51) dX7_planFault_47 (by decide) ?_
              refine EV.istore (i := 5) (lv' := [some (.ref m), some (.int (zI ((w : Int)))), some (.int (zI (s))), some (.int (zI ((k : Int)))), some (.int (zI (K.2 k))), some (.int (zI (1)))]) dX7_planFault_51 (by decide) rfl ?_
              refine EV.iconst dX7_planFault_53 ?_
              refine EV.istore_n (i := 2) (lv' := [some (.ref m), some (.int (zI ((w : Int)))), some (.int (zI ((-1)))), some (.int (zI ((k : Int)))), some (.int (zI (K.2 k))), some (.int (zI (1)))]) dX7_planFault_54 rfl (by decide) rfl ?_
              refine EV.iinc (i := 1) (lv' := [some (.ref m), some (.int (zI ((w : Int) + 1))), some (.int (zI ((-1)))), some (.int (zI ((k : Int)))), some (.int (zI (K.2 k))), some (.int (zI (1)))]) dX7_planFault_55 rfl (by decide) rfl ?_
              refine EV.goto (t := 115) dX7_planFault_58 (by decide) ?_
              refine EV.iload (i := 5) dX7_planFault_115 rfl ?_
              refine EV.ifne (t := 122) dX7_planFault_117 (by decide) (by omega) (fun c117 => ?_) (fun c117 => ?_)
              · skip
                refine EV.iinc (i := 3) (lv' := [some (.ref m), some (.int (zI (((w : Int) + 1)))), some (.int (zI ((-1)))), some (.int (zI ((k : Int) + 1))), some (.int (zI (K.2 k))), some (.int (zI (1)))]) dX7_planFault_122 rfl (by decide) rfl ?_
                refine EV.goto (t := 7) dX7_planFault_125 (by decide) ?_
                refine EV.drop 4 (lv' := [some (.ref m), some (.int (zI (((w : Int) + 1)))), some (.int (zI ((-1)))), some (.int (zI (((k : Int) + 1)))), none, some (.int (zI (1)))]) rfl ?_
                refine EV.drop 5 (lv' := [some (.ref m), some (.int (zI (((w : Int) + 1)))), some (.int (zI ((-1)))), some (.int (zI (((k : Int) + 1)))), none, none]) rfl ?_
                exact ih7 (k + 1) (w + 1) _ _ _ (by omega) (by omega) (Or.inr (by decide)) (pfr_y hx (by omega) (by obtain rfl : s = -2 := (by omega); exact pfn_1 (by omega) (by omega))) (by omega) (by rfl) (by rfl)
              · skip
                omega
  exact L7 _ 0 0 _ _ _ (by omega) (by omega) (Or.inl rfl) (rfl) (Nat.lt_succ_self _) (by rfl) (by rfl)
set_option maxHeartbeats 4000000 in
set_option maxRecDepth 20000 in
theorem c_X7_fault (d : Nat) (hM : ModAt G h m A F P T K la im ik) (hW : WF F) (hK : WFK K) (hP : WFP P) (hT : WFT T) (z : Int) (hz : inR z) : CT G l mX7_fault (d + 4) 0 0 [.ref m, .int (zI (z))] h (RQ h (faultR K z)) := by
  refine CT.of (by decide) (Nat.le_of_ble_eq_true rfl) (List.forall_mem_cons.mpr ⟨rfl, List.forall_mem_cons.mpr ⟨rfl, fun _ h => absurd h List.not_mem_nil⟩⟩) ?_
  refine EV.lvs (lv' := [some (.ref m), some (.int (zI (z)))]) rfl ?_
  have ⟨hcm, hc0, hc1, hc2, hc3, hc4, hc5, hc6, hc7, hc8, hc9⟩ := hM
  have hth := hW.1
  have hK6 := hK.1
  have hP6 := hP.1
  have hT6 := hT.1
  have hsf : ∀ q, q < 6 → F.1.testBit q = true → F.1.testBit q = true := fun _ _ z => z
  refine EV.iload_n (i := 1) dX7_fault_0 rfl rfl ?_
  refine EV.ifne (t := 11) dX7_fault_1 (by decide) (by omega) (fun c1 => ?_) (fun c1 => ?_)
  · skip
    refine EV.iload_n (i := 1) dX7_fault_11 rfl rfl ?_
    refine EV.iconst dX7_fault_12 ?_
    refine EV.icmp_ne (t := 23) dX7_fault_13 (by decide) (by omega) (fun c13 => ?_) (fun c13 => ?_)
    · skip
      refine EV.bipush dX7_fault_23 (by decide) ?_
      refine EV.iret rfl dX7_fault_25 ?_
      exact rQ (by rw [faultR, if_neg (by omega), if_neg (by omega)])
    · skip
      refine EV.aload_n (i := 0) dX7_fault_16 rfl rfl ?_
      refine EV.callVr (M' := mX7_planFault) (as := []) (rest := []) ml_X7_64 im_X7_planFault se_X7_planFault rfl co_X7_planFault dX7_fault_17 hcm (c_X7_planFault (d + 0) hM hW hK hP hT ) rfl rfl (Nat.le_of_ble_eq_true rfl) ?_
      have hpfi := pfK_in K
      refine EV.goto (t := 25) dX7_fault_20 (by decide) ?_
      refine EV.iret rfl dX7_fault_25 ?_
      exact rQ (by rw [faultR, if_neg (by omega), if_pos (by omega)])
  · skip
    refine EV.aload_n (i := 0) dX7_fault_4 rfl rfl ?_
    refine EV.callVr (M' := mX7_orderFault) (as := []) (rest := []) ml_X7_60 im_X7_orderFault se_X7_orderFault rfl co_X7_orderFault dX7_fault_5 hcm (c_X7_orderFault (d + 0) hM hW hK hP hT ) rfl rfl (Nat.le_of_ble_eq_true rfl) ?_
    have hofi := ofK_in K
    refine EV.goto (t := 25) dX7_fault_8 (by decide) ?_
    refine EV.iret rfl dX7_fault_25 ?_
    exact rQ (by rw [faultR, if_pos (by omega)])
set_option maxHeartbeats 4000000 in
set_option maxRecDepth 20000 in
theorem c_X7_today (d : Nat) (hM : ModAt G h m A F P T K la im ik) (hW : WF F) (hK : WFK K) (hP : WFP P) (hT : WFT T) (z t : Int) (hz : inR z) (ht : inR t) : CT G l mX7_today (d + 3) 0 0 [.ref m, .int (zI (z)), .int (zI (t))] h (RQ h (todayR F z t)) := by
  refine CT.of (by decide) (Nat.le_of_ble_eq_true rfl) (List.forall_mem_cons.mpr ⟨rfl, List.forall_mem_cons.mpr ⟨rfl, List.forall_mem_cons.mpr ⟨rfl, fun _ h => absurd h List.not_mem_nil⟩⟩⟩) ?_
  refine EV.lvs (lv' := [some (.ref m), some (.int (zI (z))), some (.int (zI (t)))]) rfl ?_
  have ⟨hcm, hc0, hc1, hc2, hc3, hc4, hc5, hc6, hc7, hc8, hc9⟩ := hM
  have hth := hW.1
  have hK6 := hK.1
  have hP6 := hP.1
  have hT6 := hT.1
  have hsf : ∀ q, q < 6 → F.1.testBit q = true → F.1.testBit q = true := fun _ _ z => z
  refine EV.aload_n (i := 0) dX7_today_0 rfl rfl ?_
  refine EV.iload_n (i := 1) dX7_today_1 rfl rfl ?_
  refine EV.callVr (M' := mX7_isThere) (as := [.int (zI (z))]) (rest := []) ml_X7_67 im_X7_isThere se_X7_isThere rfl co_X7_isThere dX7_today_2 hcm (c_X7_isThere (d + 0) hM hW z (by omega)) rfl rfl (Nat.le_of_ble_eq_true rfl) ?_
  refine EV.ifneB (t := 10) dX7_today_5 (by decide) (fun c5 => ?_) (fun c5 => ?_)
  · skip
    obtain ⟨p, hp, rfl, hb⟩ := thI_p c5
    refine EV.iload_n (i := 2) dX7_today_10 rfl rfl ?_
    refine EV.callSr (M' := mX7_isDate) (as := [.int (zI (t))]) (rest := []) ml_X7_77 sm_X7_isDate co_X7_isDate dX7_today_11 (c_X7_isDate (d + 0) t (by omega)) rfl rfl (Nat.le_of_ble_eq_true rfl) ?_
    refine EV.ifeqB (t := 26) dX7_today_14 (by decide) (fun c14 => ?_) (fun c14 => ?_)
    · skip
      have c14r := of_nrg c14
      refine EV.bipush dX7_today_26 (by decide) ?_
      refine EV.iret rfl dX7_today_28 ?_
      exact rQ (by rw [todayR, if_pos c5, if_neg (by rw [c14]; decide)])
    · skip
      have c14r := of_rg c14
      refine EV.aload_n (i := 0) dX7_today_17 rfl rfl ?_
      refine EV.iload_n (i := 1) dX7_today_18 rfl rfl ?_
      refine EV.iload_n (i := 2) dX7_today_19 rfl rfl ?_
      refine EV.callVr (M' := mX7_dayOf) (as := [.int (zI ((p : Int))), .int (zI (t))]) (rest := []) ml_X7_80 im_X7_dayOf se_X7_dayOf rfl co_X7_dayOf dX7_today_20 hcm (c_X7_dayOf (d + 1) hM hW p t (by omega) hb (by omega)) rfl rfl (Nat.le_of_ble_eq_true rfl) ?_
      have hdy := hW.dy (p := p) (by omega) hb t
      refine EV.goto (t := 28) dX7_today_23 (by decide) ?_
      refine EV.iret rfl dX7_today_28 ?_
      exact rQ (by rw [todayR, if_pos c5, if_pos c14, dn_y hp hb])
  · skip
    refine EV.iconst dX7_today_8 ?_
    refine EV.iret rfl dX7_today_9 ?_
    exact rQ (by rw [todayR, if_neg (by rw [c5]; decide)])
set_option maxHeartbeats 4000000 in
set_option maxRecDepth 20000 in
theorem c_X7_same (d : Nat) (hM : ModAt G h m A F P T K la im ik) (hW : WF F) (hK : WFK K) (hP : WFP P) (hT : WFT T) (D t : Int) (hD : inR D) (ht : inR t) : CT G l mX7_same (d + 3) 0 0 [.ref m, .int (zI (D)), .int (zI (t))] h (RQ h (sameR F D t)) := by
  refine CT.of (by decide) (Nat.le_of_ble_eq_true rfl) (List.forall_mem_cons.mpr ⟨rfl, List.forall_mem_cons.mpr ⟨rfl, List.forall_mem_cons.mpr ⟨rfl, fun _ h => absurd h List.not_mem_nil⟩⟩⟩) ?_
  refine EV.lvs (lv' := [some (.ref m), some (.int (zI (D))), some (.int (zI (t)))]) rfl ?_
  have ⟨hcm, hc0, hc1, hc2, hc3, hc4, hc5, hc6, hc7, hc8, hc9⟩ := hM
  have hth := hW.1
  have hK6 := hK.1
  have hP6 := hP.1
  have hT6 := hT.1
  have hsf : ∀ q, q < 6 → F.1.testBit q = true → F.1.testBit q = true := fun _ _ z => z
  refine EV.iload_n (i := 1) dX7_same_0 rfl rfl ?_
  refine EV.callSr (M' := mX7_isDay) (as := [.int (zI (D))]) (rest := []) ml_X7_56 sm_X7_isDay co_X7_isDay dX7_same_1 (c_X7_isDay (d + 0) D (by omega)) rfl rfl (Nat.le_of_ble_eq_true rfl) ?_
  refine EV.ifneB (t := 9) dX7_same_4 (by decide) (fun c4 => ?_) (fun c4 => ?_)
  · skip
    have c4r := of_rg c4
    refine EV.iload_n (i := 2) dX7_same_9 rfl rfl ?_
    refine EV.callSr (M' := mX7_isDate) (as := [.int (zI (t))]) (rest := []) ml_X7_77 sm_X7_isDate co_X7_isDate dX7_same_10 (c_X7_isDate (d + 0) t (by omega)) rfl rfl (Nat.le_of_ble_eq_true rfl) ?_
    refine EV.ifeqB (t := 29) dX7_same_13 (by decide) (fun c13 => ?_) (fun c13 => ?_)
    · skip
      have c13r := of_nrg c13
      refine EV.bipush dX7_same_29 (by decide) ?_
      refine EV.iret rfl dX7_same_31 ?_
      exact rQ (by simp [sameR, c4, c13])
    · skip
      have c13r := of_rg c13
      refine EV.aload_n (i := 0) dX7_same_16 rfl rfl ?_
      refine EV.aload_n (i := 0) dX7_same_17 rfl rfl ?_
      refine EV.getf fl_X7_41 dX7_same_18 hcm rfl ?_
      refine EV.iload_n (i := 1) dX7_same_21 rfl rfl ?_
      refine EV.iload_n (i := 2) dX7_same_22 rfl rfl ?_
      refine EV.callVr (M' := mX7_having) (as := [.int (zI ((F.1 : Int))), .int (zI (D)), .int (zI (t))]) (rest := []) ml_X7_84 im_X7_having se_X7_having rfl co_X7_having dX7_same_23 hcm (c_X7_having (d + 0) hM hW F.1 D t (by omega) hsf (by omega) (by omega)) rfl rfl (Nat.le_of_ble_eq_true rfl) ?_
      refine EV.top (y := zI ((hv F D t : Int))) (rfl) ?_
      have hvl := hv_lt F D t
      refine EV.goto (t := 31) dX7_same_26 (by decide) ?_
      refine EV.iret rfl dX7_same_31 ?_
      exact rQ (by simp [sameR, c4, c13])
  · skip
    have c4r := of_nrg c4
    refine EV.iconst dX7_same_7 ?_
    refine EV.iret rfl dX7_same_8 ?_
    exact rQ (by simp [sameR, c4])
set_option maxHeartbeats 4000000 in
set_option maxRecDepth 20000 in
theorem c_X7_next (d : Nat) (hM : ModAt G h m A F P T K la im ik) (hW : WF F) (hK : WFK K) (hP : WFP P) (hT : WFT T) (z D t : Int) (hz : inR z) (hD : inR D) (ht : inR t) : CT G l mX7_next (d + 3) 0 0 [.ref m, .int (zI (z)), .int (zI (D)), .int (zI (t))] h (RQ h (nextR F z D t)) := by
  refine CT.of (by decide) (Nat.le_of_ble_eq_true rfl) (List.forall_mem_cons.mpr ⟨rfl, List.forall_mem_cons.mpr ⟨rfl, List.forall_mem_cons.mpr ⟨rfl, List.forall_mem_cons.mpr ⟨rfl, fun _ h => absurd h List.not_mem_nil⟩⟩⟩⟩) ?_
  refine EV.lvs (lv' := [some (.ref m), some (.int (zI (z))), some (.int (zI (D))), some (.int (zI (t))), none]) rfl ?_
  have ⟨hcm, hc0, hc1, hc2, hc3, hc4, hc5, hc6, hc7, hc8, hc9⟩ := hM
  have hth := hW.1
  have hK6 := hK.1
  have hP6 := hP.1
  have hT6 := hT.1
  have hsf : ∀ q, q < 6 → F.1.testBit q = true → F.1.testBit q = true := fun _ _ z => z
  refine EV.aload_n (i := 0) dX7_next_0 rfl rfl ?_
  refine EV.iload_n (i := 1) dX7_next_1 rfl rfl ?_
  refine EV.callVr (M' := mX7_isThere) (as := [.int (zI (z))]) (rest := []) ml_X7_67 im_X7_isThere se_X7_isThere rfl co_X7_isThere dX7_next_2 hcm (c_X7_isThere (d + 0) hM hW z (by omega)) rfl rfl (Nat.le_of_ble_eq_true rfl) ?_
  refine EV.ifeqB (t := 15) dX7_next_5 (by decide) (fun c5 => ?_) (fun c5 => ?_)
  · skip
    refine EV.iconst dX7_next_15 ?_
    refine EV.iret rfl dX7_next_16 ?_
    exact rQ (by simp [nextR, c5])
  · skip
    refine EV.iload_n (i := 2) dX7_next_8 rfl rfl ?_
    refine EV.callSr (M' := mX7_isDay) (as := [.int (zI (D))]) (rest := []) ml_X7_56 sm_X7_isDay co_X7_isDay dX7_next_9 (c_X7_isDay (d + 0) D (by omega)) rfl rfl (Nat.le_of_ble_eq_true rfl) ?_
    refine EV.ifneB (t := 17) dX7_next_12 (by decide) (fun c12 => ?_) (fun c12 => ?_)
    · skip
      have c12r := of_rg c12
      refine EV.iload_n (i := 3) dX7_next_17 rfl rfl ?_
      refine EV.callSr (M' := mX7_isDate) (as := [.int (zI (t))]) (rest := []) ml_X7_77 sm_X7_isDate co_X7_isDate dX7_next_18 (c_X7_isDate (d + 0) t (by omega)) rfl rfl (Nat.le_of_ble_eq_true rfl) ?_
      refine EV.ifneB (t := 27) dX7_next_21 (by decide) (fun c21 => ?_) (fun c21 => ?_)
      · skip
        have c21r := of_rg c21
        obtain ⟨tn, rfl⟩ : ∃ tn : Nat, t = (tn : Int) := ⟨t.toNat, by omega⟩
        obtain ⟨p, hp, rfl, hb⟩ := thI_p c5
        refine EV.iload_n (i := 3) dX7_next_27 rfl rfl ?_
        refine EV.istore (i := 4) (lv' := [some (.ref m), some (.int (zI ((p : Int)))), some (.int (zI (D))), some (.int (zI ((tn : Int)))), some (.int (zI ((tn : Int))))]) dX7_next_28 (by decide) rfl ?_
        have L30 : ∀ (n30 : Nat) (u : Nat) (x4 : Int), (tn ≤ u) → (u ≤ 10000) → (∀ i, tn ≤ i → i < u → nxB F (p : Int) D i = false) → 10000 - u < n30 → x4 = (u : Int) → EV G l mX7_next (d + 3) (RQ h (nextR F (p : Int) D (tn : Int))) 30 [some (.ref m), some (.int (zI ((p : Int)))), some (.int (zI (D))), some (.int (zI ((tn : Int)))), some (.int (zI (x4)))] [] h 0 0 := by
          intro n30
          induction n30 with
          | zero => intro _ _ _ _ _ hm; exact absurd hm (Nat.not_lt_zero _)
          | succ n30 ih30 =>
            intro u x4 hu hu8 hno hm30 e4
            subst e4
            refine EV.iload (i := 4) dX7_next_30 rfl ?_
            refine EV.sipush dX7_next_32 (by decide) ?_
            refine EV.icmp_ge (t := 58) dX7_next_35 (by decide) (by omega) (fun c35 => ?_) (fun c35 => ?_)
            · skip
              obtain rfl : u = 10000 := by omega
              refine EV.bipush dX7_next_58 (by decide) ?_
              refine EV.iret rfl dX7_next_60 ?_
              exact rQ (nextR_n c5 c12 c21 (by rw [Int.toNat_natCast]; exact ffr_none (fun i a b => hno i a (by omega)))).symm
            · skip
              refine EV.aload_n (i := 0) dX7_next_38 rfl rfl ?_
              refine EV.iload_n (i := 1) dX7_next_39 rfl rfl ?_
              refine EV.iload (i := 4) dX7_next_40 rfl ?_
              refine EV.callVr (M' := mX7_dayOf) (as := [.int (zI ((p : Int))), .int (zI ((u : Int)))]) (rest := []) ml_X7_80 im_X7_dayOf se_X7_dayOf rfl co_X7_dayOf dX7_next_42 hcm (c_X7_dayOf (d + 1) hM hW p (u : Int) (by omega) hb (by omega)) rfl rfl (Nat.le_of_ble_eq_true rfl) ?_
              have hdy := hW.dy (p := p) (by omega) hb (u : Int)
              refine EV.iload_n (i := 2) dX7_next_45 rfl rfl ?_
              refine EV.icmp_ne (t := 52) dX7_next_46 (by decide) (by omega) (fun c46 => ?_) (fun c46 => ?_)
              · skip
                refine EV.iinc (i := 4) (lv' := [some (.ref m), some (.int (zI ((p : Int)))), some (.int (zI (D))), some (.int (zI ((tn : Int)))), some (.int (zI ((u : Int) + 1)))]) dX7_next_52 rfl (by decide) rfl ?_
                refine EV.goto (t := 30) dX7_next_55 (by decide) ?_
                exact ih30 (u + 1) _ (by omega) (by omega) (no_sA hno (decide_eq_false (by rw [dn_y hp hb]; exact c46))) (by omega) (by rfl)
              · skip
                refine EV.iload (i := 4) dX7_next_49 rfl ?_
                refine EV.iret rfl dX7_next_51 ?_
                exact rQ (nextR_s c5 c12 c21 (by rw [Int.toNat_natCast]; exact ffr_some hu (by omega) (decide_eq_true (by rw [dn_y hp hb]; exact c46)) hno)).symm
        exact L30 _ tn _ (by omega) (by omega) (fun i a b => absurd a (by omega)) (Nat.lt_succ_self _) (by rfl)
      · skip
        have c21r := of_nrg c21
        refine EV.bipush dX7_next_24 (by decide) ?_
        refine EV.iret rfl dX7_next_26 ?_
        exact rQ (by simp [nextR, c5, c12, c21])
    · skip
      have c12r := of_nrg c12
      refine EV.iconst dX7_next_15 ?_
      refine EV.iret rfl dX7_next_16 ?_
      exact rQ (by simp [nextR, c5, c12])
set_option maxHeartbeats 4000000 in
set_option maxRecDepth 20000 in
theorem c_X7_meet (d : Nat) (hM : ModAt G h m A F P T K la im ik) (hW : WF F) (hK : WFK K) (hP : WFP P) (hT : WFT T) (z t w : Int) (hz : inR z) (ht : inR t) (hw : inR w) : CT G l mX7_meet (d + 4) 0 0 [.ref m, .int (zI (z)), .int (zI (t)), .int (zI (w))] h (RQ h (meetR F z t w)) := by
  refine CT.of (by decide) (Nat.le_of_ble_eq_true rfl) (List.forall_mem_cons.mpr ⟨rfl, List.forall_mem_cons.mpr ⟨rfl, List.forall_mem_cons.mpr ⟨rfl, List.forall_mem_cons.mpr ⟨rfl, fun _ h => absurd h List.not_mem_nil⟩⟩⟩⟩) ?_
  refine EV.lvs (lv' := [some (.ref m), some (.int (zI (z))), some (.int (zI (t))), some (.int (zI (w))), none, none]) rfl ?_
  have ⟨hcm, hc0, hc1, hc2, hc3, hc4, hc5, hc6, hc7, hc8, hc9⟩ := hM
  have hth := hW.1
  have hK6 := hK.1
  have hP6 := hP.1
  have hT6 := hT.1
  have hsf : ∀ q, q < 6 → F.1.testBit q = true → F.1.testBit q = true := fun _ _ z => z
  refine EV.aload_n (i := 0) dX7_meet_0 rfl rfl ?_
  refine EV.iload_n (i := 1) dX7_meet_1 rfl rfl ?_
  refine EV.callVr (M' := mX7_areThere) (as := [.int (zI (z))]) (rest := []) ml_X7_88 im_X7_areThere se_X7_areThere rfl co_X7_areThere dX7_meet_2 hcm (c_X7_areThere (d + 1) hM hW z (by omega)) rfl rfl (Nat.le_of_ble_eq_true rfl) ?_
  refine EV.ifeqB (t := 24) dX7_meet_5 (by decide) (fun c5 => ?_) (fun c5 => ?_)
  · skip
    refine EV.bipush dX7_meet_24 (by decide) ?_
    refine EV.iret rfl dX7_meet_26 ?_
    exact rQ (by simp [meetR, c5])
  · skip
    refine EV.iload_n (i := 2) dX7_meet_8 rfl rfl ?_
    refine EV.callSr (M' := mX7_isDate) (as := [.int (zI (t))]) (rest := []) ml_X7_77 sm_X7_isDate co_X7_isDate dX7_meet_9 (c_X7_isDate (d + 1) t (by omega)) rfl rfl (Nat.le_of_ble_eq_true rfl) ?_
    refine EV.ifeqB (t := 24) dX7_meet_12 (by decide) (fun c12 => ?_) (fun c12 => ?_)
    · skip
      have c12r := of_nrg c12
      refine EV.bipush dX7_meet_24 (by decide) ?_
      refine EV.iret rfl dX7_meet_26 ?_
      exact rQ (by simp [meetR, c5, c12])
    · skip
      have c12r := of_rg c12
      refine EV.iload_n (i := 3) dX7_meet_15 rfl rfl ?_
      refine EV.iconst dX7_meet_16 ?_
      refine EV.iconst dX7_meet_17 ?_
      refine EV.callSr (M' := mX7_in) (as := [.int (zI (w)), .int (zI (0)), .int (zI (1))]) (rest := []) ml_X7_45 sm_X7_in co_X7_in dX7_meet_18 (c_X7_in (d + 2) w 0 1 (by omega) (by omega) (by omega)) rfl rfl (Nat.le_of_ble_eq_true rfl) ?_
      refine EV.ifneB (t := 27) dX7_meet_21 (by decide) (fun c21 => ?_) (fun c21 => ?_)
      · skip
        have c21r := of_rg c21
        obtain ⟨a, rfl, ha1, ha6, hsa⟩ := setB_of c5
        have hsub := sub_bit hsa
        refine EV.iload_n (i := 2) dX7_meet_27 rfl rfl ?_
        refine EV.istore (i := 4) (lv' := [some (.ref m), some (.int (zI ((a : Int)))), some (.int (zI (t))), some (.int (zI (w))), some (.int (zI (t))), none]) dX7_meet_28 (by decide) rfl ?_
        have L30 : ∀ (n30 : Nat) (k : Nat) (x4 : Int), (k ≤ 840) → (∀ i, i < k → mtB F (a : Int) t i = false) → 840 - k < n30 → x4 = (t + (k : Int)) → EV G l mX7_meet (d + 4) (RQ h (meetR F (a : Int) t w)) 30 [some (.ref m), some (.int (zI ((a : Int)))), some (.int (zI (t))), some (.int (zI (w))), some (.int (zI (x4))), none] [] h 0 0 := by
          intro n30
          induction n30 with
          | zero => intro _ _ _ _ hm; exact absurd hm (Nat.not_lt_zero _)
          | succ n30 ih30 =>
            intro k x4 hk hno hm30 e4
            subst e4
            refine EV.iload (i := 4) dX7_meet_30 rfl ?_
            refine EV.iload_n (i := 2) dX7_meet_32 rfl rfl ?_
            refine EV.sipush dX7_meet_33 (by decide) ?_
            refine EV.iadd dX7_meet_36 ?_
            refine EV.icmp_ge (t := 72) dX7_meet_37 (by decide) (by omega) (fun c37 => ?_) (fun c37 => ?_)
            · skip
              obtain rfl : k = 840 := by omega
              refine EV.bipush dX7_meet_72 (by decide) ?_
              refine EV.iret rfl dX7_meet_74 ?_
              exact rQ (meetR_n c5 c12 c21 (ffr_none (fun i _ b => hno i (by omega)))).symm
            · skip
              refine EV.aload_n (i := 0) dX7_meet_40 rfl rfl ?_
              refine EV.iload_n (i := 1) dX7_meet_41 rfl rfl ?_
              refine EV.iload (i := 4) dX7_meet_42 rfl ?_
              refine EV.callVr (M' := mX7_oneDay) (as := [.int (zI ((a : Int))), .int (zI ((t + (k : Int))))]) (rest := []) ml_X7_91 im_X7_oneDay se_X7_oneDay rfl co_X7_oneDay dX7_meet_44 hcm (c_X7_oneDay (d + 0) hM hW a (t + (k : Int)) (by omega) hsub (by omega)) rfl rfl (Nat.le_of_ble_eq_true rfl) ?_
              have hcb2 := cd_in F a (t + (k : Int))
              refine EV.istore (i := 5) (lv' := [some (.ref m), some (.int (zI ((a : Int)))), some (.int (zI (t))), some (.int (zI (w))), some (.int (zI ((t + (k : Int))))), some (.int (zI (cd F a (t + (k : Int)))))]) dX7_meet_47 (by decide) rfl ?_
              refine EV.iload (i := 5) dX7_meet_49 rfl ?_
              refine EV.iflt (t := 66) dX7_meet_51 (by decide) (by omega) (fun c51 => ?_) (fun c51 => ?_)
              · skip
                refine EV.iinc (i := 4) (lv' := [some (.ref m), some (.int (zI ((a : Int)))), some (.int (zI (t))), some (.int (zI (w))), some (.int (zI ((t + (k : Int)) + 1))), some (.int (zI (cd F a (t + (k : Int)))))]) dX7_meet_66 rfl (by decide) rfl ?_
                refine EV.goto (t := 30) dX7_meet_69 (by decide) ?_
                refine EV.drop 5 (lv' := [some (.ref m), some (.int (zI ((a : Int)))), some (.int (zI (t))), some (.int (zI (w))), some (.int (zI (((t + (k : Int)) + 1)))), none]) rfl ?_
                exact ih30 (k + 1) _ (by omega) (no_step hno (mtB_f (cd_neg c51))) (by omega) (by omega)
              · skip
                refine EV.iload_n (i := 3) dX7_meet_54 rfl rfl ?_
                refine EV.ifne (t := 63) dX7_meet_55 (by decide) (by omega) (fun c55 => ?_) (fun c55 => ?_)
                · skip
                  refine EV.iload (i := 5) dX7_meet_63 rfl ?_
                  refine EV.iret rfl dX7_meet_65 ?_
                  exact rQ (by rw [meetR_s c5 c12 c21 (ffr_some (Nat.zero_le _) (by omega : k < 0 + 840) (mtB_t (by omega)) (fun i _ b => hno i b)), if_neg c55, Int.toNat_natCast])
                · skip
                  refine EV.iload (i := 4) dX7_meet_58 rfl ?_
                  refine EV.goto (t := 65) dX7_meet_60 (by decide) ?_
                  refine EV.iret rfl dX7_meet_65 ?_
                  exact rQ (by rw [meetR_s c5 c12 c21 (ffr_some (Nat.zero_le _) (by omega : k < 0 + 840) (mtB_t (by omega)) (fun i _ b => hno i b)), if_pos c55])
        exact L30 _ 0 _ (by omega) (no_0) (Nat.lt_succ_self _) (by omega)
      · skip
        have c21r := of_nrg c21
        refine EV.bipush dX7_meet_24 (by decide) ?_
        refine EV.iret rfl dX7_meet_26 ?_
        exact rQ (by simp [meetR, c5, c12, c21])
set_option maxHeartbeats 4000000 in
set_option maxRecDepth 20000 in
theorem c_X7_shared (d : Nat) (hM : ModAt G h m A F P T K la im ik) (hW : WF F) (hK : WFK K) (hP : WFP P) (hT : WFT T) (z y : Int) (hz : inR z) (hy : inR y) : CT G l mX7_shared (d + 4) 0 0 [.ref m, .int (zI (z)), .int (zI (y))] h (RQ h (sharedR F z y)) := by
  refine CT.of (by decide) (Nat.le_of_ble_eq_true rfl) (List.forall_mem_cons.mpr ⟨rfl, List.forall_mem_cons.mpr ⟨rfl, List.forall_mem_cons.mpr ⟨rfl, fun _ h => absurd h List.not_mem_nil⟩⟩⟩) ?_
  refine EV.lvs (lv' := [some (.ref m), some (.int (zI (z))), some (.int (zI (y)))]) rfl ?_
  have ⟨hcm, hc0, hc1, hc2, hc3, hc4, hc5, hc6, hc7, hc8, hc9⟩ := hM
  have hth := hW.1
  have hK6 := hK.1
  have hP6 := hP.1
  have hT6 := hT.1
  have hsf : ∀ q, q < 6 → F.1.testBit q = true → F.1.testBit q = true := fun _ _ z => z
  refine EV.aload_n (i := 0) dX7_shared_0 rfl rfl ?_
  refine EV.iload_n (i := 1) dX7_shared_1 rfl rfl ?_
  refine EV.callVr (M' := mX7_isThere) (as := [.int (zI (z))]) (rest := []) ml_X7_67 im_X7_isThere se_X7_isThere rfl co_X7_isThere dX7_shared_2 hcm (c_X7_isThere (d + 1) hM hW z (by omega)) rfl rfl (Nat.le_of_ble_eq_true rfl) ?_
  refine EV.ifeqB (t := 33) dX7_shared_5 (by decide) (fun c5 => ?_) (fun c5 => ?_)
  · skip
    refine EV.iconst dX7_shared_33 ?_
    refine EV.iret rfl dX7_shared_34 ?_
    exact rQ (by rw [sharedR, twI_f1 (Or.inl c5)]; rfl)
  · skip
    refine EV.aload_n (i := 0) dX7_shared_8 rfl rfl ?_
    refine EV.iload_n (i := 2) dX7_shared_9 rfl rfl ?_
    refine EV.callVr (M' := mX7_isThere) (as := [.int (zI (y))]) (rest := []) ml_X7_67 im_X7_isThere se_X7_isThere rfl co_X7_isThere dX7_shared_10 hcm (c_X7_isThere (d + 1) hM hW y (by omega)) rfl rfl (Nat.le_of_ble_eq_true rfl) ?_
    refine EV.ifeqB (t := 33) dX7_shared_13 (by decide) (fun c13 => ?_) (fun c13 => ?_)
    · skip
      refine EV.iconst dX7_shared_33 ?_
      refine EV.iret rfl dX7_shared_34 ?_
      exact rQ (by rw [sharedR, twI_f1 (Or.inr (Or.inl c13))]; rfl)
    · skip
      refine EV.iload_n (i := 1) dX7_shared_16 rfl rfl ?_
      refine EV.iload_n (i := 2) dX7_shared_17 rfl rfl ?_
      refine EV.icmp_eq (t := 33) dX7_shared_18 (by decide) (by omega) (fun c18 => ?_) (fun c18 => ?_)
      · skip
        refine EV.iconst dX7_shared_33 ?_
        refine EV.iret rfl dX7_shared_34 ?_
        exact rQ (by rw [sharedR, twI_f1 (Or.inr (Or.inr c18))]; rfl)
      · skip
        obtain ⟨p, hp, rfl, hb⟩ := thI_p c5
        obtain ⟨q, hq, rfl, hbq⟩ := thI_p c13
        refine EV.aload_n (i := 0) dX7_shared_21 rfl rfl ?_
        refine EV.iload_n (i := 1) dX7_shared_22 rfl rfl ?_
        refine EV.iload_n (i := 2) dX7_shared_23 rfl rfl ?_
        refine EV.sipush dX7_shared_24 (by decide) ?_
        refine EV.callVr (M' := mX7_sharedBy) (as := [.int (zI ((p : Int))), .int (zI ((q : Int))), .int (zI (840))]) (rest := []) ml_X7_94 im_X7_sharedBy se_X7_sharedBy rfl co_X7_sharedBy dX7_shared_27 hcm (c_X7_sharedBy (d + 1) hM hW p q hp hq hb hbq 840 (by decide)) rfl rfl (Nat.le_of_ble_eq_true rfl) ?_
        have hsl := shr_le F p q 840
        refine EV.goto (t := 34) dX7_shared_30 (by decide) ?_
        refine EV.iret rfl dX7_shared_34 ?_
        exact rQ (by rw [sharedR, if_pos (twI_t c5 c13 c18)]; rfl)
set_option maxHeartbeats 4000000 in
set_option maxRecDepth 20000 in
theorem c_X7_never (d : Nat) (hM : ModAt G h m A F P T K la im ik) (hW : WF F) (hK : WFK K) (hP : WFP P) (hT : WFT T) (i : Int) (hi : inR i) : CT G l mX7_never (d + 4) 0 0 [.ref m, .int (zI (i))] h (RQ h (prR (nvF F) i)) := by
  refine CT.of (by decide) (Nat.le_of_ble_eq_true rfl) (List.forall_mem_cons.mpr ⟨rfl, List.forall_mem_cons.mpr ⟨rfl, fun _ h => absurd h List.not_mem_nil⟩⟩) ?_
  refine EV.lvs (lv' := [some (.ref m), some (.int (zI (i))), none, none, none]) rfl ?_
  have ⟨hcm, hc0, hc1, hc2, hc3, hc4, hc5, hc6, hc7, hc8, hc9⟩ := hM
  have hth := hW.1
  have hK6 := hK.1
  have hP6 := hP.1
  have hT6 := hT.1
  have hsf : ∀ q, q < 6 → F.1.testBit q = true → F.1.testBit q = true := fun _ _ z => z
  refine EV.iconst dX7_never_0 ?_
  refine EV.istore_n (i := 2) (lv' := [some (.ref m), some (.int (zI (i))), some (.int (zI (0))), none, none]) dX7_never_1 rfl (by decide) rfl ?_
  refine EV.iconst dX7_never_2 ?_
  refine EV.istore_n (i := 3) (lv' := [some (.ref m), some (.int (zI (i))), some (.int (zI (0))), some (.int (zI (0))), none]) dX7_never_3 rfl (by decide) rfl ?_
  have L4 : ∀ (n4 : Nat) (p : Nat) (n : Nat) (x2 x3 : Int), (p ≤ 6) → (n ≤ 8 * p) → (prR (nvF F) i = ith (nvF F) i (prs p (p + 1)) n) → 6 - p < n4 → x2 = (n : Int) → x3 = (p : Int) → EV G l mX7_never (d + 4) (RQ h (prR (nvF F) i)) 4 [some (.ref m), some (.int (zI (i))), some (.int (zI (x2))), some (.int (zI (x3))), none] [] h 0 0 := by
    intro n4
    induction n4 with
    | zero => intro _ _ _ _ _ _ _ hm; exact absurd hm (Nat.not_lt_zero _)
    | succ n4 ih4 =>
      intro p n x2 x3 hp hn hx hm4 e2 e3
      subst e2 e3
      refine EV.iload_n (i := 3) dX7_never_4 rfl rfl ?_
      refine EV.bipush dX7_never_5 (by decide) ?_
      refine EV.icmp_ge (t := 86) dX7_never_7 (by decide) (by omega) (fun c7 => ?_) (fun c7 => ?_)
      · skip
        obtain rfl : p = 6 := by omega
        refine EV.iload_n (i := 1) dX7_never_86 rfl rfl ?_
        refine EV.iconst dX7_never_87 ?_
        refine EV.icmp_ne (t := 95) dX7_never_88 (by decide) (by omega) (fun c88 => ?_) (fun c88 => ?_)
        · skip
          refine EV.bipush dX7_never_95 (by decide) ?_
          refine EV.iret rfl dX7_never_97 ?_
          exact rQ (by rw [ith_e hx, if_neg (by omega)])
        · skip
          refine EV.iload_n (i := 2) dX7_never_91 rfl rfl ?_
          refine EV.goto (t := 97) dX7_never_92 (by decide) ?_
          refine EV.iret rfl dX7_never_97 ?_
          exact rQ (by rw [ith_e hx, if_pos (by omega)])
      · skip
        refine EV.iload_n (i := 3) dX7_never_10 rfl rfl ?_
        refine EV.iconst dX7_never_11 ?_
        refine EV.iadd dX7_never_12 ?_
        refine EV.istore (i := 4) (lv' := [some (.ref m), some (.int (zI (i))), some (.int (zI ((n : Int)))), some (.int (zI ((p : Int)))), some (.int (zI (((p : Int) + 1))))]) dX7_never_13 (by decide) rfl ?_
        have L15 : ∀ (n15 : Nat) (q : Nat) (n1 : Nat) (x2 x4 : Int), (q ≤ 6) → (p < q) → (n1 ≤ 8 * p + q) → (prR (nvF F) i = ith (nvF F) i (prs p q) n1) → 6 - q < n15 → x2 = (n1 : Int) → x4 = (q : Int) → EV G l mX7_never (d + 4) (RQ h (prR (nvF F) i)) 15 [some (.ref m), some (.int (zI (i))), some (.int (zI (x2))), some (.int (zI ((p : Int)))), some (.int (zI (x4)))] [] h 0 0 := by
          intro n15
          induction n15 with
          | zero => intro _ _ _ _ _ _ _ _ hm; exact absurd hm (Nat.not_lt_zero _)
          | succ n15 ih15 =>
            intro q n1 x2 x4 hq hpq hn1 hy hm15 e2 e4
            subst e2 e4
            refine EV.iload (i := 4) dX7_never_15 rfl ?_
            refine EV.bipush dX7_never_17 (by decide) ?_
            refine EV.icmp_ge (t := 80) dX7_never_19 (by decide) (by omega) (fun c19 => ?_) (fun c19 => ?_)
            · skip
              obtain rfl : q = 6 := by omega
              refine EV.iinc (i := 3) (lv' := [some (.ref m), some (.int (zI (i))), some (.int (zI ((n1 : Int)))), some (.int (zI ((p : Int) + 1))), some (.int (zI (((6 : Nat) : Int))))]) dX7_never_80 rfl (by decide) rfl ?_
              refine EV.goto (t := 4) dX7_never_83 (by decide) ?_
              refine EV.drop 4 (lv' := [some (.ref m), some (.int (zI (i))), some (.int (zI ((n1 : Int)))), some (.int (zI (((p : Int) + 1)))), none]) rfl ?_
              exact ih4 (p + 1) n1 _ _ (by omega) (by omega) (ith_r hy (by omega)) (by omega) (by rfl) (by rfl)
            · skip
              refine EV.aload_n (i := 0) dX7_never_22 rfl rfl ?_
              refine EV.getf fl_X7_41 dX7_never_23 hcm rfl ?_
              refine EV.iload_n (i := 3) dX7_never_26 rfl rfl ?_
              refine EV.callSr (M' := mX7_has) (as := [.int (zI ((F.1 : Int))), .int (zI ((p : Int)))]) (rest := []) ml_X7_49 sm_X7_has co_X7_has dX7_never_27 (c_X7_has (d + 2) F.1 p (by omega) (by omega)) rfl rfl (Nat.le_of_ble_eq_true rfl) ?_
              refine EV.ifeqB (t := 74) dX7_never_30 (by decide) (fun c30 => ?_) (fun c30 => ?_)
              · skip
                refine EV.iinc (i := 4) (lv' := [some (.ref m), some (.int (zI (i))), some (.int (zI ((n1 : Int)))), some (.int (zI ((p : Int)))), some (.int (zI ((q : Int) + 1)))]) dX7_never_74 rfl (by decide) rfl ?_
                refine EV.goto (t := 15) dX7_never_77 (by decide) ?_
                exact ih15 (q + 1) n1 _ _ (by omega) (by omega) (by omega) (ith_n hy (by omega) (by omega) hpq ((nv_0 (Or.inl c30)).1)) (by omega) (by rfl) (by rfl)
              · skip
                refine EV.aload_n (i := 0) dX7_never_33 rfl rfl ?_
                refine EV.getf fl_X7_41 dX7_never_34 hcm rfl ?_
                refine EV.iload (i := 4) dX7_never_37 rfl ?_
                refine EV.callSr (M' := mX7_has) (as := [.int (zI ((F.1 : Int))), .int (zI ((q : Int)))]) (rest := []) ml_X7_49 sm_X7_has co_X7_has dX7_never_39 (c_X7_has (d + 2) F.1 q (by omega) (by omega)) rfl rfl (Nat.le_of_ble_eq_true rfl) ?_
                refine EV.ifeqB (t := 74) dX7_never_42 (by decide) (fun c42 => ?_) (fun c42 => ?_)
                · skip
                  refine EV.iinc (i := 4) (lv' := [some (.ref m), some (.int (zI (i))), some (.int (zI ((n1 : Int)))), some (.int (zI ((p : Int)))), some (.int (zI ((q : Int) + 1)))]) dX7_never_74 rfl (by decide) rfl ?_
                  refine EV.goto (t := 15) dX7_never_77 (by decide) ?_
                  exact ih15 (q + 1) n1 _ _ (by omega) (by omega) (by omega) (ith_n hy (by omega) (by omega) hpq ((nv_0 (Or.inr c42)).1)) (by omega) (by rfl) (by rfl)
                · skip
                  refine EV.aload_n (i := 0) dX7_never_45 rfl rfl ?_
                  refine EV.iload_n (i := 3) dX7_never_46 rfl rfl ?_
                  refine EV.iload (i := 4) dX7_never_47 rfl ?_
                  refine EV.sipush dX7_never_49 (by decide) ?_
                  refine EV.callVr (M' := mX7_sharedBy) (as := [.int (zI ((p : Int))), .int (zI ((q : Int))), .int (zI (840))]) (rest := []) ml_X7_94 im_X7_sharedBy se_X7_sharedBy rfl co_X7_sharedBy dX7_never_52 hcm (c_X7_sharedBy (d + 1) hM hW p q (by omega) (by omega) c30 c42 840 (by decide)) rfl rfl (Nat.le_of_ble_eq_true rfl) ?_
                  have hsl := shr_le F p q 840
                  refine EV.ifne (t := 74) dX7_never_55 (by decide) (by omega) (fun c55 => ?_) (fun c55 => ?_)
                  · skip
                    refine EV.iinc (i := 4) (lv' := [some (.ref m), some (.int (zI (i))), some (.int (zI ((n1 : Int)))), some (.int (zI ((p : Int)))), some (.int (zI ((q : Int) + 1)))]) dX7_never_74 rfl (by decide) rfl ?_
                    refine EV.goto (t := 15) dX7_never_77 (by decide) ?_
                    exact ih15 (q + 1) n1 _ _ (by omega) (by omega) (by omega) (ith_n hy (by omega) (by omega) hpq ((nv_s c30 c42).trans (decide_eq_false (by omega)))) (by omega) (by rfl) (by rfl)
                  · skip
                    refine EV.iload_n (i := 2) dX7_never_58 rfl rfl ?_
                    refine EV.iload_n (i := 1) dX7_never_59 rfl rfl ?_
                    refine EV.icmp_ne (t := 71) dX7_never_60 (by decide) (by omega) (fun c60 => ?_) (fun c60 => ?_)
                    · skip
                      refine EV.iinc (i := 2) (lv' := [some (.ref m), some (.int (zI (i))), some (.int (zI ((n1 : Int) + 1))), some (.int (zI ((p : Int)))), some (.int (zI ((q : Int))))]) dX7_never_71 rfl (by decide) rfl ?_
                      refine EV.iinc (i := 4) (lv' := [some (.ref m), some (.int (zI (i))), some (.int (zI (((n1 : Int) + 1)))), some (.int (zI ((p : Int)))), some (.int (zI ((q : Int) + 1)))]) dX7_never_74 rfl (by decide) rfl ?_
                      refine EV.goto (t := 15) dX7_never_77 (by decide) ?_
                      exact ih15 (q + 1) (n1 + 1) _ _ (by omega) (by omega) (by omega) (ith_u hy (by omega) (by omega) hpq ((nv_s c30 c42).trans (decide_eq_true (by omega))) (c60)) (by omega) (by rfl) (by rfl)
                    · skip
                      refine EV.bipush dX7_never_63 (by decide) ?_
                      refine EV.iload_n (i := 3) dX7_never_65 rfl rfl ?_
                      refine EV.imul dX7_never_66 ?_
                      refine EV.iload (i := 4) dX7_never_67 rfl ?_
                      refine EV.iadd dX7_never_69 ?_
                      refine EV.iret rfl dX7_never_70 ?_
                      exact rQ (ith_y hy (by omega) (by omega) hpq ((nv_s c30 c42).trans (decide_eq_true (by omega))) c60).symm
        exact L15 _ (p + 1) n _ _ (by omega) (by omega) (by omega) (hx) (Nat.lt_succ_self _) (by rfl) (by rfl)
  exact L4 _ 0 0 _ _ (by omega) (by omega) (rfl) (Nat.lt_succ_self _) (by rfl) (by rfl)
set_option maxHeartbeats 4000000 in
set_option maxRecDepth 20000 in
theorem c_X7_twins (d : Nat) (hM : ModAt G h m A F P T K la im ik) (hW : WF F) (hK : WFK K) (hP : WFP P) (hT : WFT T) (i : Int) (hi : inR i) : CT G l mX7_twins (d + 4) 0 0 [.ref m, .int (zI (i))] h (RQ h (prR (twF F) i)) := by
  refine CT.of (by decide) (Nat.le_of_ble_eq_true rfl) (List.forall_mem_cons.mpr ⟨rfl, List.forall_mem_cons.mpr ⟨rfl, fun _ h => absurd h List.not_mem_nil⟩⟩) ?_
  refine EV.lvs (lv' := [some (.ref m), some (.int (zI (i))), none, none, none]) rfl ?_
  have ⟨hcm, hc0, hc1, hc2, hc3, hc4, hc5, hc6, hc7, hc8, hc9⟩ := hM
  have hth := hW.1
  have hK6 := hK.1
  have hP6 := hP.1
  have hT6 := hT.1
  have hsf : ∀ q, q < 6 → F.1.testBit q = true → F.1.testBit q = true := fun _ _ z => z
  refine EV.iconst dX7_twins_0 ?_
  refine EV.istore_n (i := 2) (lv' := [some (.ref m), some (.int (zI (i))), some (.int (zI (0))), none, none]) dX7_twins_1 rfl (by decide) rfl ?_
  refine EV.iconst dX7_twins_2 ?_
  refine EV.istore_n (i := 3) (lv' := [some (.ref m), some (.int (zI (i))), some (.int (zI (0))), some (.int (zI (0))), none]) dX7_twins_3 rfl (by decide) rfl ?_
  have L4 : ∀ (n4 : Nat) (p : Nat) (n : Nat) (x2 x3 : Int), (p ≤ 6) → (n ≤ 8 * p) → (prR (twF F) i = ith (twF F) i (prs p (p + 1)) n) → 6 - p < n4 → x2 = (n : Int) → x3 = (p : Int) → EV G l mX7_twins (d + 4) (RQ h (prR (twF F) i)) 4 [some (.ref m), some (.int (zI (i))), some (.int (zI (x2))), some (.int (zI (x3))), none] [] h 0 0 := by
    intro n4
    induction n4 with
    | zero => intro _ _ _ _ _ _ _ hm; exact absurd hm (Nat.not_lt_zero _)
    | succ n4 ih4 =>
      intro p n x2 x3 hp hn hx hm4 e2 e3
      subst e2 e3
      refine EV.iload_n (i := 3) dX7_twins_4 rfl rfl ?_
      refine EV.bipush dX7_twins_5 (by decide) ?_
      refine EV.icmp_ge (t := 95) dX7_twins_7 (by decide) (by omega) (fun c7 => ?_) (fun c7 => ?_)
      · skip
        obtain rfl : p = 6 := by omega
        refine EV.iload_n (i := 1) dX7_twins_95 rfl rfl ?_
        refine EV.iconst dX7_twins_96 ?_
        refine EV.icmp_ne (t := 104) dX7_twins_97 (by decide) (by omega) (fun c97 => ?_) (fun c97 => ?_)
        · skip
          refine EV.bipush dX7_twins_104 (by decide) ?_
          refine EV.iret rfl dX7_twins_106 ?_
          exact rQ (by rw [ith_e hx, if_neg (by omega)])
        · skip
          refine EV.iload_n (i := 2) dX7_twins_100 rfl rfl ?_
          refine EV.goto (t := 106) dX7_twins_101 (by decide) ?_
          refine EV.iret rfl dX7_twins_106 ?_
          exact rQ (by rw [ith_e hx, if_pos (by omega)])
      · skip
        refine EV.iload_n (i := 3) dX7_twins_10 rfl rfl ?_
        refine EV.iconst dX7_twins_11 ?_
        refine EV.iadd dX7_twins_12 ?_
        refine EV.istore (i := 4) (lv' := [some (.ref m), some (.int (zI (i))), some (.int (zI ((n : Int)))), some (.int (zI ((p : Int)))), some (.int (zI (((p : Int) + 1))))]) dX7_twins_13 (by decide) rfl ?_
        have L15 : ∀ (n15 : Nat) (q : Nat) (n1 : Nat) (x2 x4 : Int), (q ≤ 6) → (p < q) → (n1 ≤ 8 * p + q) → (prR (twF F) i = ith (twF F) i (prs p q) n1) → 6 - q < n15 → x2 = (n1 : Int) → x4 = (q : Int) → EV G l mX7_twins (d + 4) (RQ h (prR (twF F) i)) 15 [some (.ref m), some (.int (zI (i))), some (.int (zI (x2))), some (.int (zI ((p : Int)))), some (.int (zI (x4)))] [] h 0 0 := by
          intro n15
          induction n15 with
          | zero => intro _ _ _ _ _ _ _ _ hm; exact absurd hm (Nat.not_lt_zero _)
          | succ n15 ih15 =>
            intro q n1 x2 x4 hq hpq hn1 hy hm15 e2 e4
            subst e2 e4
            refine EV.iload (i := 4) dX7_twins_15 rfl ?_
            refine EV.bipush dX7_twins_17 (by decide) ?_
            refine EV.icmp_ge (t := 89) dX7_twins_19 (by decide) (by omega) (fun c19 => ?_) (fun c19 => ?_)
            · skip
              obtain rfl : q = 6 := by omega
              refine EV.iinc (i := 3) (lv' := [some (.ref m), some (.int (zI (i))), some (.int (zI ((n1 : Int)))), some (.int (zI ((p : Int) + 1))), some (.int (zI (((6 : Nat) : Int))))]) dX7_twins_89 rfl (by decide) rfl ?_
              refine EV.goto (t := 4) dX7_twins_92 (by decide) ?_
              refine EV.drop 4 (lv' := [some (.ref m), some (.int (zI (i))), some (.int (zI ((n1 : Int)))), some (.int (zI (((p : Int) + 1)))), none]) rfl ?_
              exact ih4 (p + 1) n1 _ _ (by omega) (by omega) (ith_r hy (by omega)) (by omega) (by rfl) (by rfl)
            · skip
              refine EV.aload_n (i := 0) dX7_twins_22 rfl rfl ?_
              refine EV.getf fl_X7_41 dX7_twins_23 hcm rfl ?_
              refine EV.iload_n (i := 3) dX7_twins_26 rfl rfl ?_
              refine EV.callSr (M' := mX7_has) (as := [.int (zI ((F.1 : Int))), .int (zI ((p : Int)))]) (rest := []) ml_X7_49 sm_X7_has co_X7_has dX7_twins_27 (c_X7_has (d + 2) F.1 p (by omega) (by omega)) rfl rfl (Nat.le_of_ble_eq_true rfl) ?_
              refine EV.ifeqB (t := 83) dX7_twins_30 (by decide) (fun c30 => ?_) (fun c30 => ?_)
              · skip
                refine EV.iinc (i := 4) (lv' := [some (.ref m), some (.int (zI (i))), some (.int (zI ((n1 : Int)))), some (.int (zI ((p : Int)))), some (.int (zI ((q : Int) + 1)))]) dX7_twins_83 rfl (by decide) rfl ?_
                refine EV.goto (t := 15) dX7_twins_86 (by decide) ?_
                exact ih15 (q + 1) n1 _ _ (by omega) (by omega) (by omega) (ith_n hy (by omega) (by omega) hpq ((nv_0 (Or.inl c30)).2)) (by omega) (by rfl) (by rfl)
              · skip
                refine EV.aload_n (i := 0) dX7_twins_33 rfl rfl ?_
                refine EV.getf fl_X7_41 dX7_twins_34 hcm rfl ?_
                refine EV.iload (i := 4) dX7_twins_37 rfl ?_
                refine EV.callSr (M' := mX7_has) (as := [.int (zI ((F.1 : Int))), .int (zI ((q : Int)))]) (rest := []) ml_X7_49 sm_X7_has co_X7_has dX7_twins_39 (c_X7_has (d + 2) F.1 q (by omega) (by omega)) rfl rfl (Nat.le_of_ble_eq_true rfl) ?_
                refine EV.ifeqB (t := 83) dX7_twins_42 (by decide) (fun c42 => ?_) (fun c42 => ?_)
                · skip
                  refine EV.iinc (i := 4) (lv' := [some (.ref m), some (.int (zI (i))), some (.int (zI ((n1 : Int)))), some (.int (zI ((p : Int)))), some (.int (zI ((q : Int) + 1)))]) dX7_twins_83 rfl (by decide) rfl ?_
                  refine EV.goto (t := 15) dX7_twins_86 (by decide) ?_
                  exact ih15 (q + 1) n1 _ _ (by omega) (by omega) (by omega) (ith_n hy (by omega) (by omega) hpq ((nv_0 (Or.inr c42)).2)) (by omega) (by rfl) (by rfl)
                · skip
                  refine EV.aload_n (i := 0) dX7_twins_45 rfl rfl ?_
                  refine EV.iload_n (i := 3) dX7_twins_46 rfl rfl ?_
                  refine EV.iload (i := 4) dX7_twins_47 rfl ?_
                  refine EV.iconst dX7_twins_49 ?_
                  refine EV.callVr (M' := mX7_goesWith) (as := [.int (zI ((p : Int))), .int (zI ((q : Int))), .int (zI ((-1)))]) (rest := []) ml_X7_125 im_X7_goesWith se_X7_goesWith rfl co_X7_goesWith dX7_twins_50 hcm (c_X7_goesWith (d + 1) hM hW p q (by omega) (by omega) c30 c42 (-1) (by decide)) rfl rfl (Nat.le_of_ble_eq_true rfl) ?_
                  refine EV.ifneB (t := 67) dX7_twins_53 (by decide) (fun c53 => ?_) (fun c53 => ?_)
                  · skip
                    refine EV.iload_n (i := 2) dX7_twins_67 rfl rfl ?_
                    refine EV.iload_n (i := 1) dX7_twins_68 rfl rfl ?_
                    refine EV.icmp_ne (t := 80) dX7_twins_69 (by decide) (by omega) (fun c69 => ?_) (fun c69 => ?_)
                    · skip
                      refine EV.iinc (i := 2) (lv' := [some (.ref m), some (.int (zI (i))), some (.int (zI ((n1 : Int) + 1))), some (.int (zI ((p : Int)))), some (.int (zI ((q : Int))))]) dX7_twins_80 rfl (by decide) rfl ?_
                      refine EV.iinc (i := 4) (lv' := [some (.ref m), some (.int (zI (i))), some (.int (zI (((n1 : Int) + 1)))), some (.int (zI ((p : Int)))), some (.int (zI ((q : Int) + 1)))]) dX7_twins_83 rfl (by decide) rfl ?_
                      refine EV.goto (t := 15) dX7_twins_86 (by decide) ?_
                      exact ih15 (q + 1) (n1 + 1) _ _ (by omega) (by omega) (by omega) (ith_u hy (by omega) (by omega) hpq ((tw_s c30 c42).trans (by rw [c53]; rfl)) (c69)) (by omega) (by rfl) (by rfl)
                    · skip
                      refine EV.bipush dX7_twins_72 (by decide) ?_
                      refine EV.iload_n (i := 3) dX7_twins_74 rfl rfl ?_
                      refine EV.imul dX7_twins_75 ?_
                      refine EV.iload (i := 4) dX7_twins_76 rfl ?_
                      refine EV.iadd dX7_twins_78 ?_
                      refine EV.iret rfl dX7_twins_79 ?_
                      exact rQ (ith_y hy (by omega) (by omega) hpq ((tw_s c30 c42).trans (by rw [c53]; rfl)) c69).symm
                  · skip
                    refine EV.aload_n (i := 0) dX7_twins_56 rfl rfl ?_
                    refine EV.iload_n (i := 3) dX7_twins_57 rfl rfl ?_
                    refine EV.iload (i := 4) dX7_twins_58 rfl ?_
                    refine EV.iconst dX7_twins_60 ?_
                    refine EV.callVr (M' := mX7_goesWith) (as := [.int (zI ((p : Int))), .int (zI ((q : Int))), .int (zI (1))]) (rest := []) ml_X7_125 im_X7_goesWith se_X7_goesWith rfl co_X7_goesWith dX7_twins_61 hcm (c_X7_goesWith (d + 1) hM hW p q (by omega) (by omega) c30 c42 1 (by decide)) rfl rfl (Nat.le_of_ble_eq_true rfl) ?_
                    refine EV.ifeqB (t := 83) dX7_twins_64 (by decide) (fun c64 => ?_) (fun c64 => ?_)
                    · skip
                      refine EV.iinc (i := 4) (lv' := [some (.ref m), some (.int (zI (i))), some (.int (zI ((n1 : Int)))), some (.int (zI ((p : Int)))), some (.int (zI ((q : Int) + 1)))]) dX7_twins_83 rfl (by decide) rfl ?_
                      refine EV.goto (t := 15) dX7_twins_86 (by decide) ?_
                      exact ih15 (q + 1) n1 _ _ (by omega) (by omega) (by omega) (ith_n hy (by omega) (by omega) hpq ((tw_s c30 c42).trans (by rw [c53, c64]; rfl))) (by omega) (by rfl) (by rfl)
                    · skip
                      refine EV.iload_n (i := 2) dX7_twins_67 rfl rfl ?_
                      refine EV.iload_n (i := 1) dX7_twins_68 rfl rfl ?_
                      refine EV.icmp_ne (t := 80) dX7_twins_69 (by decide) (by omega) (fun c69 => ?_) (fun c69 => ?_)
                      · skip
                        refine EV.iinc (i := 2) (lv' := [some (.ref m), some (.int (zI (i))), some (.int (zI ((n1 : Int) + 1))), some (.int (zI ((p : Int)))), some (.int (zI ((q : Int))))]) dX7_twins_80 rfl (by decide) rfl ?_
                        refine EV.iinc (i := 4) (lv' := [some (.ref m), some (.int (zI (i))), some (.int (zI (((n1 : Int) + 1)))), some (.int (zI ((p : Int)))), some (.int (zI ((q : Int) + 1)))]) dX7_twins_83 rfl (by decide) rfl ?_
                        refine EV.goto (t := 15) dX7_twins_86 (by decide) ?_
                        exact ih15 (q + 1) (n1 + 1) _ _ (by omega) (by omega) (by omega) (ith_u hy (by omega) (by omega) hpq ((tw_s c30 c42).trans (by rw [c53, c64]; rfl)) (c69)) (by omega) (by rfl) (by rfl)
                      · skip
                        refine EV.bipush dX7_twins_72 (by decide) ?_
                        refine EV.iload_n (i := 3) dX7_twins_74 rfl rfl ?_
                        refine EV.imul dX7_twins_75 ?_
                        refine EV.iload (i := 4) dX7_twins_76 rfl ?_
                        refine EV.iadd dX7_twins_78 ?_
                        refine EV.iret rfl dX7_twins_79 ?_
                        exact rQ (ith_y hy (by omega) (by omega) hpq ((tw_s c30 c42).trans (by rw [c53, c64]; rfl)) c69).symm
        exact L15 _ (p + 1) n _ _ (by omega) (by omega) (by omega) (hx) (Nat.lt_succ_self _) (by rfl) (by rfl)
  exact L4 _ 0 0 _ _ (by omega) (by omega) (rfl) (Nat.lt_succ_self _) (by rfl) (by rfl)
set_option maxHeartbeats 4000000 in
set_option maxRecDepth 20000 in
theorem c_X7_can (d : Nat) (hM : ModAt G h m A F P T K la im ik) (hW : WF F) (hK : WFK K) (hP : WFP P) (hT : WFT T) (z t : Int) (hz : inR z) (ht : inR t) : CT G l mX7_can (d + 4) 0 0 [.ref m, .int (zI (z)), .int (zI (t))] h (RQ h (canR F P z t)) := by
  refine CT.of (by decide) (Nat.le_of_ble_eq_true rfl) (List.forall_mem_cons.mpr ⟨rfl, List.forall_mem_cons.mpr ⟨rfl, List.forall_mem_cons.mpr ⟨rfl, fun _ h => absurd h List.not_mem_nil⟩⟩⟩) ?_
  refine EV.lvs (lv' := [some (.ref m), some (.int (zI (z))), some (.int (zI (t)))]) rfl ?_
  have ⟨hcm, hc0, hc1, hc2, hc3, hc4, hc5, hc6, hc7, hc8, hc9⟩ := hM
  have hth := hW.1
  have hK6 := hK.1
  have hP6 := hP.1
  have hT6 := hT.1
  have hsf : ∀ q, q < 6 → F.1.testBit q = true → F.1.testBit q = true := fun _ _ z => z
  refine EV.aload_n (i := 0) dX7_can_0 rfl rfl ?_
  refine EV.iload_n (i := 1) dX7_can_1 rfl rfl ?_
  refine EV.callVr (M' := mX7_isWork) (as := [.int (zI (z))]) (rest := []) ml_X7_97 im_X7_isWork se_X7_isWork rfl co_X7_isWork dX7_can_2 hcm (c_X7_isWork (d + 1) hM hW z (by omega) hP) rfl rfl (Nat.le_of_ble_eq_true rfl) ?_
  refine EV.ifneB (t := 10) dX7_can_5 (by decide) (fun c5 => ?_) (fun c5 => ?_)
  · skip
    have c5r := of_rg c5
    obtain ⟨v, rfl⟩ : ∃ v : Nat, z = (v : Int) := ⟨z.toNat, by omega⟩
    obtain ⟨hwd, hwo, hwp⟩ := hP.2 v (by omega)
    refine EV.iload_n (i := 2) dX7_can_10 rfl rfl ?_
    refine EV.callSr (M' := mX7_isDate) (as := [.int (zI (t))]) (rest := []) ml_X7_77 sm_X7_isDate co_X7_isDate dX7_can_11 (c_X7_isDate (d + 1) t (by omega)) rfl rfl (Nat.le_of_ble_eq_true rfl) ?_
    refine EV.ifneB (t := 22) dX7_can_14 (by decide) (fun c14 => ?_) (fun c14 => ?_)
    · skip
      have c14r := of_rg c14
      refine EV.aload_n (i := 0) dX7_can_22 rfl rfl ?_
      refine EV.iload_n (i := 1) dX7_can_23 rfl rfl ?_
      refine EV.iload_n (i := 2) dX7_can_24 rfl rfl ?_
      refine EV.callVr (M' := mX7_canBe) (as := [.int (zI ((v : Int))), .int (zI (t))]) (rest := []) ml_X7_100 im_X7_canBe se_X7_canBe rfl co_X7_canBe dX7_can_25 hcm (c_X7_canBe (d + 0) hM hW v t hP (by omega) (by omega)) rfl rfl (Nat.le_of_ble_eq_true rfl) ?_
      refine EV.ifeqB (t := 35) dX7_can_28 (by decide) (fun c28 => ?_) (fun c28 => ?_)
      · skip
        refine EV.iconst dX7_can_35 ?_
        refine EV.iret rfl dX7_can_36 ?_
        exact rQ (by rw [canR, if_pos c5, if_pos c14, Int.toNat_natCast, c28]; rfl)
      · skip
        refine EV.iconst dX7_can_31 ?_
        refine EV.goto (t := 36) dX7_can_32 (by decide) ?_
        refine EV.iret rfl dX7_can_36 ?_
        exact rQ (by rw [canR, if_pos c5, if_pos c14, Int.toNat_natCast, c28]; rfl)
    · skip
      have c14r := of_nrg c14
      refine EV.bipush dX7_can_17 (by decide) ?_
      refine EV.goto (t := 36) dX7_can_19 (by decide) ?_
      refine EV.iret rfl dX7_can_36 ?_
      exact rQ (by rw [canR, if_pos c5, if_neg (by rw [c14]; decide)])
  · skip
    have c5r := of_nrg c5
    refine EV.iconst dX7_can_8 ?_
    refine EV.iret rfl dX7_can_9 ?_
    exact rQ (by rw [canR, if_neg (by rw [c5]; decide)])
set_option maxHeartbeats 4000000 in
set_option maxRecDepth 20000 in
theorem c_X7_barred (d : Nat) (hM : ModAt G h m A F P T K la im ik) (hW : WF F) (hK : WFK K) (hP : WFP P) (hT : WFT T)  : CT G l mX7_barred (d + 5) 0 0 [.ref m] h (RQ h (barredR F P)) := by
  refine CT.of (by decide) (Nat.le_of_ble_eq_true rfl) (List.forall_mem_cons.mpr ⟨rfl, fun _ h => absurd h List.not_mem_nil⟩) ?_
  refine EV.lvs (lv' := [some (.ref m), none, none]) rfl ?_
  have ⟨hcm, hc0, hc1, hc2, hc3, hc4, hc5, hc6, hc7, hc8, hc9⟩ := hM
  have hth := hW.1
  have hK6 := hK.1
  have hP6 := hP.1
  have hT6 := hT.1
  have hsf : ∀ q, q < 6 → F.1.testBit q = true → F.1.testBit q = true := fun _ _ z => z
  refine EV.iconst dX7_barred_0 ?_
  refine EV.istore_n (i := 1) (lv' := [some (.ref m), some (.int (zI (0))), none]) dX7_barred_1 rfl (by decide) rfl ?_
  refine EV.iconst dX7_barred_2 ?_
  refine EV.istore_n (i := 2) (lv' := [some (.ref m), some (.int (zI (0))), some (.int (zI (0)))]) dX7_barred_3 rfl (by decide) rfl ?_
  have L4 : ∀ (n4 : Nat) (w : Nat) (x1 x2 : Int), (w ≤ P.1) → P.1 - w < n4 → x1 = ((orb (barB F P) w : Nat) : Int) → x2 = (w : Int) → EV G l mX7_barred (d + 5) (RQ h (barredR F P)) 4 [some (.ref m), some (.int (zI (x1))), some (.int (zI (x2)))] [] h 0 0 := by
    intro n4
    induction n4 with
    | zero => intro _ _ _ _ hm; exact absurd hm (Nat.not_lt_zero _)
    | succ n4 ih4 =>
      intro w x1 x2 hw hm4 e1 e2
      subst e1 e2
      refine EV.iload_n (i := 2) dX7_barred_4 rfl rfl ?_
      refine EV.aload_n (i := 0) dX7_barred_5 rfl rfl ?_
      refine EV.getf fl_X7_74 dX7_barred_6 hcm rfl ?_
      refine EV.icmp_ge (t := 36) dX7_barred_9 (by decide) (by omega) (fun c9 => ?_) (fun c9 => ?_)
      · skip
        obtain rfl : w = P.1 := by omega
        refine EV.iload_n (i := 1) dX7_barred_36 rfl rfl ?_
        refine EV.iret rfl dX7_barred_37 ?_
        exact rQ rfl
      · skip
        refine EV.iload_n (i := 1) dX7_barred_12 rfl rfl ?_
        refine EV.aload_n (i := 0) dX7_barred_13 rfl rfl ?_
        refine EV.iload_n (i := 2) dX7_barred_14 rfl rfl ?_
        refine EV.callVr (M' := mX7_isBarred) (as := [.int (zI ((w : Int)))]) (rest := [.int (zI (((orb (barB F P) w : Nat) : Int)))]) ml_X7_109 im_X7_isBarred se_X7_isBarred rfl co_X7_isBarred dX7_barred_15 hcm (c_X7_isBarred (d + 0) hM hW w hP (by omega)) rfl rfl (Nat.le_of_ble_eq_true rfl) ?_
        refine EV.ifeqB (t := 27) dX7_barred_18 (by decide) (fun c18 => ?_) (fun c18 => ?_)
        · skip
          refine EV.iconst dX7_barred_27 ?_
          refine EV.iorW dX7_barred_28 ?_
          refine EV.top (y := zI (((orb (barB F P) (w + 1) : Nat) : Int))) (zI_orb0 (f := barB F P) c18) ?_
          refine EV.istore_n (i := 1) (lv' := [some (.ref m), some (.int (zI (((orb (barB F P) (w + 1) : Nat) : Int)))), some (.int (zI ((w : Int))))]) dX7_barred_29 rfl (by decide) rfl ?_
          refine EV.iinc (i := 2) (lv' := [some (.ref m), some (.int (zI (((orb (barB F P) (w + 1) : Nat) : Int)))), some (.int (zI ((w : Int) + 1)))]) dX7_barred_30 rfl (by decide) rfl ?_
          refine EV.goto (t := 4) dX7_barred_33 (by decide) ?_
          exact ih4 (w + 1) _ _ (by omega) (by omega) (by rfl) (by rfl)
        · skip
          refine EV.iconst dX7_barred_21 ?_
          refine EV.iload_n (i := 2) dX7_barred_22 rfl rfl ?_
          refine EV.ishlW dX7_barred_23 ?_
          refine EV.goto (t := 28) dX7_barred_24 (by decide) ?_
          refine EV.iorW dX7_barred_28 ?_
          refine EV.top (y := zI (((orb (barB F P) (w + 1) : Nat) : Int))) (zI_orb (f := barB F P) (by omega) c18) ?_
          refine EV.istore_n (i := 1) (lv' := [some (.ref m), some (.int (zI (((orb (barB F P) (w + 1) : Nat) : Int)))), some (.int (zI ((w : Int))))]) dX7_barred_29 rfl (by decide) rfl ?_
          refine EV.iinc (i := 2) (lv' := [some (.ref m), some (.int (zI (((orb (barB F P) (w + 1) : Nat) : Int)))), some (.int (zI ((w : Int) + 1)))]) dX7_barred_30 rfl (by decide) rfl ?_
          refine EV.goto (t := 4) dX7_barred_33 (by decide) ?_
          exact ih4 (w + 1) _ _ (by omega) (by omega) (by rfl) (by rfl)
  exact L4 _ 0 _ _ (by omega) (Nat.lt_succ_self _) (by rfl) (by rfl)
set_option maxHeartbeats 4000000 in
set_option maxRecDepth 20000 in
theorem c_X7_why (d : Nat) (hM : ModAt G h m A F P T K la im ik) (hW : WF F) (hK : WFK K) (hP : WFP P) (hT : WFT T) (z : Int) (hz : inR z) : CT G l mX7_why (d + 5) 0 0 [.ref m, .int (zI (z))] h (RQ h (whyR F P z)) := by
  refine CT.of (by decide) (Nat.le_of_ble_eq_true rfl) (List.forall_mem_cons.mpr ⟨rfl, List.forall_mem_cons.mpr ⟨rfl, fun _ h => absurd h List.not_mem_nil⟩⟩) ?_
  refine EV.lvs (lv' := [some (.ref m), some (.int (zI (z))), none, none]) rfl ?_
  have ⟨hcm, hc0, hc1, hc2, hc3, hc4, hc5, hc6, hc7, hc8, hc9⟩ := hM
  have hth := hW.1
  have hK6 := hK.1
  have hP6 := hP.1
  have hT6 := hT.1
  have hsf : ∀ q, q < 6 → F.1.testBit q = true → F.1.testBit q = true := fun _ _ z => z
  refine EV.aload_n (i := 0) dX7_why_0 rfl rfl ?_
  refine EV.iload_n (i := 1) dX7_why_1 rfl rfl ?_
  refine EV.callVr (M' := mX7_isWork) (as := [.int (zI (z))]) (rest := []) ml_X7_97 im_X7_isWork se_X7_isWork rfl co_X7_isWork dX7_why_2 hcm (c_X7_isWork (d + 2) hM hW z (by omega) hP) rfl rfl (Nat.le_of_ble_eq_true rfl) ?_
  refine EV.ifneB (t := 10) dX7_why_5 (by decide) (fun c5 => ?_) (fun c5 => ?_)
  · skip
    have c5r := of_rg c5
    obtain ⟨v, rfl⟩ : ∃ v : Nat, z = (v : Int) := ⟨z.toNat, by omega⟩
    obtain ⟨hwd, hwo, hwp⟩ := hP.2 v (by omega)
    refine EV.aload_n (i := 0) dX7_why_10 rfl rfl ?_
    refine EV.iload_n (i := 1) dX7_why_11 rfl rfl ?_
    refine EV.callVr (M' := mX7_isBarred) (as := [.int (zI ((v : Int)))]) (rest := []) ml_X7_109 im_X7_isBarred se_X7_isBarred rfl co_X7_isBarred dX7_why_12 hcm (c_X7_isBarred (d + 0) hM hW v hP (by omega)) rfl rfl (Nat.le_of_ble_eq_true rfl) ?_
    refine EV.ifneB (t := 21) dX7_why_15 (by decide) (fun c15 => ?_) (fun c15 => ?_)
    · skip
      refine EV.aload_n (i := 0) dX7_why_21 rfl rfl ?_
      refine EV.getf fl_X7_22 dX7_why_22 hcm rfl ?_
      refine EV.iload_n (i := 1) dX7_why_25 rfl rfl ?_
      refine EV.iald dX7_why_26 hc4 (v) (rfl) (by omega) ?_
      refine EV.top (y := zI ((P.2.2 v : Int))) (rfl) ?_
      refine EV.aload_n (i := 0) dX7_why_27 rfl rfl ?_
      refine EV.getf fl_X7_41 dX7_why_28 hcm rfl ?_
      refine EV.iconst dX7_why_31 ?_
      refine EV.ixorW dX7_why_32 ?_
      refine EV.iandW dX7_why_33 ?_
      refine EV.ifeqW (t := 40) dX7_why_34 (by decide) (fun c34 => ?_) (fun c34 => ?_)
      · skip
        have hsn := (sub0 _ hwp F.1 hth).mp c34
        have hsub := sub_bit hsn
        have hwr : whyR F P (v : Int) = wn F (P.2.2 v) (P.2.1 v) := by rw [whyR, if_pos c5, Int.toNat_natCast, if_pos (show barB F P v = true from c15), if_pos hsn]
        refine EV.iconst dX7_why_40 ?_
        refine EV.istore_n (i := 2) (lv' := [some (.ref m), some (.int (zI ((v : Int)))), some (.int (zI (0))), none]) dX7_why_41 rfl (by decide) rfl ?_
        have L42 : ∀ (n42 : Nat) (p : Nat) (x2 : Int), (p ≤ 6) → (ffr (wn1 F (P.2.2 v) (P.2.1 v)) 6 0 = ffr (wn1 F (P.2.2 v) (P.2.1 v)) (6 - p) p) → 6 - p < n42 → x2 = (p : Int) → EV G l mX7_why (d + 5) (RQ h (whyR F P (v : Int))) 42 [some (.ref m), some (.int (zI ((v : Int)))), some (.int (zI (x2))), none] [] h 0 0 := by
          intro n42
          induction n42 with
          | zero => intro _ _ _ _ hm; exact absurd hm (Nat.not_lt_zero _)
          | succ n42 ih42 =>
            intro p x2 hp hx hm42 e2
            subst e2
            refine EV.iload_n (i := 2) dX7_why_42 rfl rfl ?_
            refine EV.bipush dX7_why_43 (by decide) ?_
            refine EV.icmp_ge (t := 88) dX7_why_45 (by decide) (by omega) (fun c45 => ?_) (fun c45 => ?_)
            · skip
              obtain rfl : p = 6 := by omega
              refine EV.iconst dX7_why_88 ?_
              refine EV.istore_n (i := 2) (lv' := [some (.ref m), some (.int (zI ((v : Int)))), some (.int (zI (0))), none]) dX7_why_89 rfl (by decide) rfl ?_
              have L90 : ∀ (n90 : Nat) (p : Nat) (x2 : Int), (p ≤ 6) → (wn F (P.2.2 v) (P.2.1 v) = fpr (wn2 F (P.2.2 v) (P.2.1 v)) (prs p (p + 1))) → 6 - p < n90 → x2 = (p : Int) → EV G l mX7_why (d + 5) (RQ h (whyR F P (v : Int))) 90 [some (.ref m), some (.int (zI ((v : Int)))), some (.int (zI (x2))), none] [] h 0 0 := by
                intro n90
                induction n90 with
                | zero => intro _ _ _ _ hm; exact absurd hm (Nat.not_lt_zero _)
                | succ n90 ih90 =>
                  intro p x2 hp hy hm90 e2
                  subst e2
                  refine EV.iload_n (i := 2) dX7_why_90 rfl rfl ?_
                  refine EV.bipush dX7_why_91 (by decide) ?_
                  refine EV.icmp_ge (t := 171) dX7_why_93 (by decide) (by omega) (fun c93 => ?_) (fun c93 => ?_)
                  · skip
                    obtain rfl : p = 6 := by omega
                    refine EV.bipush dX7_why_171 (by decide) ?_
                    refine EV.iret rfl dX7_why_173 ?_
                    exact rQ (by rw [hwr]; exact (fpr_e hy).symm)
                  · skip
                    refine EV.iload_n (i := 2) dX7_why_96 rfl rfl ?_
                    refine EV.iconst dX7_why_97 ?_
                    refine EV.iadd dX7_why_98 ?_
                    refine EV.istore_n (i := 3) (lv' := [some (.ref m), some (.int (zI ((v : Int)))), some (.int (zI ((p : Int)))), some (.int (zI (((p : Int) + 1))))]) dX7_why_99 rfl (by decide) rfl ?_
                    have L100 : ∀ (n100 : Nat) (q : Nat) (x3 : Int), (q ≤ 6) → (p < q) → (wn F (P.2.2 v) (P.2.1 v) = fpr (wn2 F (P.2.2 v) (P.2.1 v)) (prs p q)) → 6 - q < n100 → x3 = (q : Int) → EV G l mX7_why (d + 5) (RQ h (whyR F P (v : Int))) 100 [some (.ref m), some (.int (zI ((v : Int)))), some (.int (zI ((p : Int)))), some (.int (zI (x3)))] [] h 0 0 := by
                      intro n100
                      induction n100 with
                      | zero => intro _ _ _ _ _ hm; exact absurd hm (Nat.not_lt_zero _)
                      | succ n100 ih100 =>
                        intro q x3 hq hpq hz2 hm100 e3
                        subst e3
                        refine EV.iload_n (i := 3) dX7_why_100 rfl rfl ?_
                        refine EV.bipush dX7_why_101 (by decide) ?_
                        refine EV.icmp_ge (t := 165) dX7_why_103 (by decide) (by omega) (fun c103 => ?_) (fun c103 => ?_)
                        · skip
                          obtain rfl : q = 6 := by omega
                          refine EV.iinc (i := 2) (lv' := [some (.ref m), some (.int (zI ((v : Int)))), some (.int (zI ((p : Int) + 1))), some (.int (zI (((6 : Nat) : Int))))]) dX7_why_165 rfl (by decide) rfl ?_
                          refine EV.goto (t := 90) dX7_why_168 (by decide) ?_
                          refine EV.drop 3 (lv' := [some (.ref m), some (.int (zI ((v : Int)))), some (.int (zI (((p : Int) + 1)))), none]) rfl ?_
                          exact ih90 (p + 1) _ (by omega) (fpr_r hz2 (by omega)) (by omega) (by rfl)
                        · skip
                          refine EV.aload_n (i := 0) dX7_why_106 rfl rfl ?_
                          refine EV.getf fl_X7_22 dX7_why_107 hcm rfl ?_
                          refine EV.iload_n (i := 1) dX7_why_110 rfl rfl ?_
                          refine EV.iald dX7_why_111 hc4 (v) (rfl) (by omega) ?_
                          refine EV.top (y := zI ((P.2.2 v : Int))) (rfl) ?_
                          refine EV.iload_n (i := 2) dX7_why_112 rfl rfl ?_
                          refine EV.callSr (M' := mX7_has) (as := [.int (zI ((P.2.2 v : Int))), .int (zI ((p : Int)))]) (rest := []) ml_X7_49 sm_X7_has co_X7_has dX7_why_113 (c_X7_has (d + 3) (P.2.2 v) p (by omega) (by omega)) rfl rfl (Nat.le_of_ble_eq_true rfl) ?_
                          refine EV.ifeqB (t := 159) dX7_why_116 (by decide) (fun c116 => ?_) (fun c116 => ?_)
                          · skip
                            refine EV.iinc (i := 3) (lv' := [some (.ref m), some (.int (zI ((v : Int)))), some (.int (zI ((p : Int)))), some (.int (zI ((q : Int) + 1)))]) dX7_why_159 rfl (by decide) rfl ?_
                            refine EV.goto (t := 100) dX7_why_162 (by decide) ?_
                            exact ih100 (q + 1) _ (by omega) (by omega) (fpr_n hz2 (by omega) (by omega) hpq (by unfold wn2; rw [c116]; rfl)) (by omega) (by rfl)
                          · skip
                            refine EV.aload_n (i := 0) dX7_why_119 rfl rfl ?_
                            refine EV.getf fl_X7_22 dX7_why_120 hcm rfl ?_
                            refine EV.iload_n (i := 1) dX7_why_123 rfl rfl ?_
                            refine EV.iald dX7_why_124 hc4 (v) (rfl) (by omega) ?_
                            refine EV.top (y := zI ((P.2.2 v : Int))) (rfl) ?_
                            refine EV.iload_n (i := 3) dX7_why_125 rfl rfl ?_
                            refine EV.callSr (M' := mX7_has) (as := [.int (zI ((P.2.2 v : Int))), .int (zI ((q : Int)))]) (rest := []) ml_X7_49 sm_X7_has co_X7_has dX7_why_126 (c_X7_has (d + 3) (P.2.2 v) q (by omega) (by omega)) rfl rfl (Nat.le_of_ble_eq_true rfl) ?_
                            refine EV.ifeqB (t := 159) dX7_why_129 (by decide) (fun c129 => ?_) (fun c129 => ?_)
                            · skip
                              refine EV.iinc (i := 3) (lv' := [some (.ref m), some (.int (zI ((v : Int)))), some (.int (zI ((p : Int)))), some (.int (zI ((q : Int) + 1)))]) dX7_why_159 rfl (by decide) rfl ?_
                              refine EV.goto (t := 100) dX7_why_162 (by decide) ?_
                              exact ih100 (q + 1) _ (by omega) (by omega) (fpr_n hz2 (by omega) (by omega) hpq (by unfold wn2; rw [c116, c129]; rfl)) (by omega) (by rfl)
                            · skip
                              have hs2 := two_sub hsub (by omega) (by omega) c116 c129
                              refine EV.aload_n (i := 0) dX7_why_132 rfl rfl ?_
                              refine EV.iconst dX7_why_133 ?_
                              refine EV.iload_n (i := 2) dX7_why_134 rfl rfl ?_
                              refine EV.ishlW dX7_why_135 ?_
                              refine EV.iconst dX7_why_136 ?_
                              refine EV.iload_n (i := 3) dX7_why_137 rfl rfl ?_
                              refine EV.ishlW dX7_why_138 ?_
                              refine EV.iorW dX7_why_139 ?_
                              refine EV.top (y := zI (((2 ^ p ||| 2 ^ q : Nat) : Int))) (by rw [zI_shl1 (by omega), zI_shl1 (by omega), zI_or]) ?_
                              have hl2 := two_lt (p := p) (q := q) (by omega) (by omega)
                              refine EV.aload_n (i := 0) dX7_why_140 rfl rfl ?_
                              refine EV.getf fl_X7_19 dX7_why_141 hcm rfl ?_
                              refine EV.iload_n (i := 1) dX7_why_144 rfl rfl ?_
                              refine EV.iald dX7_why_145 hc3 (v) (rfl) (by omega) ?_
                              refine EV.callVr (M' := mX7_haveAtOnce) (as := [.int (zI (((2 ^ p ||| 2 ^ q : Nat) : Int))), .int (zI (P.2.1 v))]) (rest := []) ml_X7_112 im_X7_haveAtOnce se_X7_haveAtOnce rfl co_X7_haveAtOnce dX7_why_146 hcm (c_X7_haveAtOnce (d + 1) hM hW (2 ^ p ||| 2 ^ q) (P.2.1 v) hl2 hs2 (by omega)) rfl rfl (Nat.le_of_ble_eq_true rfl) ?_
                              refine EV.ifneB (t := 159) dX7_why_149 (by decide) (fun c149 => ?_) (fun c149 => ?_)
                              · skip
                                refine EV.iinc (i := 3) (lv' := [some (.ref m), some (.int (zI ((v : Int)))), some (.int (zI ((p : Int)))), some (.int (zI ((q : Int) + 1)))]) dX7_why_159 rfl (by decide) rfl ?_
                                refine EV.goto (t := 100) dX7_why_162 (by decide) ?_
                                exact ih100 (q + 1) _ (by omega) (by omega) (fpr_n hz2 (by omega) (by omega) hpq (by unfold wn2; rw [c149]; simp)) (by omega) (by rfl)
                              · skip
                                refine EV.bipush dX7_why_152 (by decide) ?_
                                refine EV.iload_n (i := 2) dX7_why_154 rfl rfl ?_
                                refine EV.imul dX7_why_155 ?_
                                refine EV.iload_n (i := 3) dX7_why_156 rfl rfl ?_
                                refine EV.iadd dX7_why_157 ?_
                                refine EV.iret rfl dX7_why_158 ?_
                                exact rQ (by rw [hwr]; exact (fpr_y hz2 (by omega) (by omega) hpq (by unfold wn2; rw [c116, c129, c149]; rfl)).symm)
                    exact L100 _ (p + 1) _ (by omega) (by omega) (hy) (Nat.lt_succ_self _) (by rfl)
              exact L90 _ 0 _ (by omega) (wn_c hx) (Nat.lt_succ_self _) (by rfl)
            · skip
              refine EV.aload_n (i := 0) dX7_why_48 rfl rfl ?_
              refine EV.getf fl_X7_22 dX7_why_49 hcm rfl ?_
              refine EV.iload_n (i := 1) dX7_why_52 rfl rfl ?_
              refine EV.iald dX7_why_53 hc4 (v) (rfl) (by omega) ?_
              refine EV.top (y := zI ((P.2.2 v : Int))) (rfl) ?_
              refine EV.iload_n (i := 2) dX7_why_54 rfl rfl ?_
              refine EV.callSr (M' := mX7_has) (as := [.int (zI ((P.2.2 v : Int))), .int (zI ((p : Int)))]) (rest := []) ml_X7_49 sm_X7_has co_X7_has dX7_why_55 (c_X7_has (d + 3) (P.2.2 v) p (by omega) (by omega)) rfl rfl (Nat.le_of_ble_eq_true rfl) ?_
              refine EV.ifeqB (t := 82) dX7_why_58 (by decide) (fun c58 => ?_) (fun c58 => ?_)
              · skip
                refine EV.iinc (i := 2) (lv' := [some (.ref m), some (.int (zI ((v : Int)))), some (.int (zI ((p : Int) + 1))), none]) dX7_why_82 rfl (by decide) rfl ?_
                refine EV.goto (t := 42) dX7_why_85 (by decide) ?_
                exact ih42 (p + 1) _ (by omega) (wn_b hx (by omega) (Or.inl c58)) (by omega) (by rfl)
              · skip
                have hs1 := one_sub hsub (by omega) c58
                refine EV.aload_n (i := 0) dX7_why_61 rfl rfl ?_
                refine EV.iconst dX7_why_62 ?_
                refine EV.iload_n (i := 2) dX7_why_63 rfl rfl ?_
                refine EV.ishlW dX7_why_64 ?_
                refine EV.top (y := zI (((2 ^ p : Nat) : Int))) (zI_shl1 (by omega)) ?_
                refine EV.aload_n (i := 0) dX7_why_65 rfl rfl ?_
                refine EV.getf fl_X7_19 dX7_why_66 hcm rfl ?_
                refine EV.iload_n (i := 1) dX7_why_69 rfl rfl ?_
                refine EV.iald dX7_why_70 hc3 (v) (rfl) (by omega) ?_
                refine EV.callVr (M' := mX7_haveAtOnce) (as := [.int (zI (((2 ^ p : Nat) : Int))), .int (zI (P.2.1 v))]) (rest := []) ml_X7_112 im_X7_haveAtOnce se_X7_haveAtOnce rfl co_X7_haveAtOnce dX7_why_71 hcm (c_X7_haveAtOnce (d + 1) hM hW (2 ^ p) (P.2.1 v) (pow6 (by omega)) hs1 (by omega)) rfl rfl (Nat.le_of_ble_eq_true rfl) ?_
                refine EV.ifneB (t := 82) dX7_why_74 (by decide) (fun c74 => ?_) (fun c74 => ?_)
                · skip
                  refine EV.iinc (i := 2) (lv' := [some (.ref m), some (.int (zI ((v : Int)))), some (.int (zI ((p : Int) + 1))), none]) dX7_why_82 rfl (by decide) rfl ?_
                  refine EV.goto (t := 42) dX7_why_85 (by decide) ?_
                  exact ih42 (p + 1) _ (by omega) (wn_b hx (by omega) (Or.inr c74)) (by omega) (by rfl)
                · skip
                  refine EV.bipush dX7_why_77 (by decide) ?_
                  refine EV.iload_n (i := 2) dX7_why_79 rfl rfl ?_
                  refine EV.imul dX7_why_80 ?_
                  refine EV.iret rfl dX7_why_81 ?_
                  exact rQ (by rw [hwr]; exact wn_a hx (by omega) c58 c74)
        exact L42 _ 0 _ (by omega) (rfl) (Nat.lt_succ_self _) (by rfl)
      · skip
        refine EV.bipush dX7_why_37 (by decide) ?_
        refine EV.iret rfl dX7_why_39 ?_
        exact rQ (by rw [whyR, if_pos c5, Int.toNat_natCast, if_pos (show barB F P v = true from c15), if_neg (fun y => c34 ((sub0 _ hwp F.1 hth).mpr y))])
    · skip
      refine EV.bipush dX7_why_18 (by decide) ?_
      refine EV.iret rfl dX7_why_20 ?_
      exact rQ (by rw [whyR, if_pos c5, Int.toNat_natCast, if_neg (by rw [show barB F P v = false from c15]; decide)])
  · skip
    have c5r := of_nrg c5
    refine EV.iconst dX7_why_8 ?_
    refine EV.iret rfl dX7_why_9 ?_
    exact rQ (by rw [whyR, if_neg (by rw [c5]; decide)])
set_option maxHeartbeats 4000000 in
set_option maxRecDepth 20000 in
theorem c_X7_common (d : Nat) (hM : ModAt G h m A F P T K la im ik) (hW : WF F) (hK : WFK K) (hP : WFP P) (hT : WFT T) (z t w : Int) (hz : inR z) (ht : inR t) (hw : inR w) : CT G l mX7_common (d + 4) 0 0 [.ref m, .int (zI (z)), .int (zI (t)), .int (zI (w))] h (RQ h (commonR F z t w)) := by
  refine CT.of (by decide) (Nat.le_of_ble_eq_true rfl) (List.forall_mem_cons.mpr ⟨rfl, List.forall_mem_cons.mpr ⟨rfl, List.forall_mem_cons.mpr ⟨rfl, List.forall_mem_cons.mpr ⟨rfl, fun _ h => absurd h List.not_mem_nil⟩⟩⟩⟩) ?_
  refine EV.lvs (lv' := [some (.ref m), some (.int (zI (z))), some (.int (zI (t))), some (.int (zI (w))), none, none, none, none, none, none]) rfl ?_
  have ⟨hcm, hc0, hc1, hc2, hc3, hc4, hc5, hc6, hc7, hc8, hc9⟩ := hM
  have hth := hW.1
  have hK6 := hK.1
  have hP6 := hP.1
  have hT6 := hT.1
  have hsf : ∀ q, q < 6 → F.1.testBit q = true → F.1.testBit q = true := fun _ _ z => z
  refine EV.aload_n (i := 0) dX7_common_0 rfl rfl ?_
  refine EV.iload_n (i := 1) dX7_common_1 rfl rfl ?_
  refine EV.callVr (M' := mX7_areThere) (as := [.int (zI (z))]) (rest := []) ml_X7_88 im_X7_areThere se_X7_areThere rfl co_X7_areThere dX7_common_2 hcm (c_X7_areThere (d + 1) hM hW z (by omega)) rfl rfl (Nat.le_of_ble_eq_true rfl) ?_
  refine EV.ifeqB (t := 28) dX7_common_5 (by decide) (fun c5 => ?_) (fun c5 => ?_)
  · skip
    refine EV.bipush dX7_common_28 (by decide) ?_
    refine EV.iret rfl dX7_common_30 ?_
    exact rQ (by simp [commonR, c5])
  · skip
    refine EV.iload_n (i := 2) dX7_common_8 rfl rfl ?_
    refine EV.iconst dX7_common_9 ?_
    refine EV.sipush dX7_common_10 (by decide) ?_
    refine EV.callSr (M' := mX7_in) (as := [.int (zI (t)), .int (zI (0)), .int (zI (9990))]) (rest := []) ml_X7_45 sm_X7_in co_X7_in dX7_common_13 (c_X7_in (d + 2) t 0 9990 (by omega) (by omega) (by omega)) rfl rfl (Nat.le_of_ble_eq_true rfl) ?_
    refine EV.ifeqB (t := 28) dX7_common_16 (by decide) (fun c16 => ?_) (fun c16 => ?_)
    · skip
      have c16r := of_nrg c16
      refine EV.bipush dX7_common_28 (by decide) ?_
      refine EV.iret rfl dX7_common_30 ?_
      exact rQ (by simp [commonR, c16])
    · skip
      have c16r := of_rg c16
      refine EV.iload_n (i := 3) dX7_common_19 rfl rfl ?_
      refine EV.iconst dX7_common_20 ?_
      refine EV.iconst dX7_common_21 ?_
      refine EV.callSr (M' := mX7_in) (as := [.int (zI (w)), .int (zI (0)), .int (zI (1))]) (rest := []) ml_X7_45 sm_X7_in co_X7_in dX7_common_22 (c_X7_in (d + 2) w 0 1 (by omega) (by omega) (by omega)) rfl rfl (Nat.le_of_ble_eq_true rfl) ?_
      refine EV.ifneB (t := 31) dX7_common_25 (by decide) (fun c25 => ?_) (fun c25 => ?_)
      · skip
        have c25r := of_rg c25
        obtain ⟨a, rfl, ha1, ha6, hsa⟩ := setB_of c5
        have hsub := sub_bit hsa
        have hsq : ∃ q, q < 6 ∧ F.1.testBit q = true := by obtain ⟨q, hq, hb⟩ := bit_ex ha1 ha6; exact ⟨q, hq, sub_bit hsa q hq hb⟩
        refine EV.ldc dX7_common_31 ct_X7_115 ?_
        refine EV.istore (i := 4) (lv' := [some (.ref m), some (.int (zI ((a : Int)))), some (.int (zI (t))), some (.int (zI (w))), some (.int (zI (1000000))), none, none, none, none, none]) dX7_common_33 (by decide) rfl ?_
        refine EV.bipush dX7_common_35 (by decide) ?_
        refine EV.istore (i := 5) (lv' := [some (.ref m), some (.int (zI ((a : Int)))), some (.int (zI (t))), some (.int (zI (w))), some (.int (zI (1000000))), some (.int (zI ((-6)))), none, none, none, none]) dX7_common_37 (by decide) rfl ?_
        refine EV.iconst dX7_common_39 ?_
        refine EV.istore (i := 6) (lv' := [some (.ref m), some (.int (zI ((a : Int)))), some (.int (zI (t))), some (.int (zI (w))), some (.int (zI (1000000))), some (.int (zI ((-6)))), some (.int (zI (0))), none, none, none]) dX7_common_40 (by decide) rfl ?_
        have L42 : ∀ (n42 : Nat) (L : Nat) (x4 x5 x6 : Int), (L ≤ 7) → 7 - L < n42 → x4 = cmF2 (cmS F a t (8 * L)) → x5 = cmW (cmS F a t (8 * L)) → x6 = (L : Int) → EV G l mX7_common (d + 4) (RQ h (commonR F (a : Int) t w)) 42 [some (.ref m), some (.int (zI ((a : Int)))), some (.int (zI (t))), some (.int (zI (w))), some (.int (zI (x4))), some (.int (zI (x5))), some (.int (zI (x6))), none, none, none] [] h 0 0 := by
          intro n42
          induction n42 with
          | zero => intro _ _ _ _ _ hm; exact absurd hm (Nat.not_lt_zero _)
          | succ n42 ih42 =>
            intro L x4 x5 x6 hL hm42 e4 e5 e6
            subst e4 e5 e6
            refine EV.iload (i := 6) dX7_common_42 rfl ?_
            refine EV.bipush dX7_common_44 (by decide) ?_
            refine EV.icmp_ge (t := 166) dX7_common_46 (by decide) (by omega) (fun c46 => ?_) (fun c46 => ?_)
            · skip
              obtain rfl : L = 7 := by omega
              refine EV.iload_n (i := 3) dX7_common_166 rfl rfl ?_
              refine EV.ifne (t := 175) dX7_common_167 (by decide) (by omega) (fun c167 => ?_) (fun c167 => ?_)
              · skip
                refine EV.iload (i := 5) dX7_common_175 rfl ?_
                refine EV.iret rfl dX7_common_177 ?_
                exact rQ (by rw [commonR_2 hW hsq c5 c16 c25, if_neg c167])
              · skip
                refine EV.iload (i := 4) dX7_common_170 rfl ?_
                refine EV.goto (t := 177) dX7_common_172 (by decide) ?_
                refine EV.iret rfl dX7_common_177 ?_
                exact rQ (by rw [commonR_2 hW hsq c5 c16 c25, if_pos c167])
            · skip
              refine EV.iconst dX7_common_49 ?_
              refine EV.istore (i := 7) (lv' := [some (.ref m), some (.int (zI ((a : Int)))), some (.int (zI (t))), some (.int (zI (w))), some (.int (zI (cmF2 (cmS F a t (8 * L))))), some (.int (zI (cmW (cmS F a t (8 * L))))), some (.int (zI ((L : Int)))), some (.int (zI (0))), none, none]) dX7_common_50 (by decide) rfl ?_
              have L52 : ∀ (n52 : Nat) (j : Nat) (x4 x5 x7 : Int), (j ≤ 8) → 8 - j < n52 → x4 = cmF2 (cmS F a t (8 * L + j)) → x5 = cmW (cmS F a t (8 * L + j)) → x7 = (j : Int) → EV G l mX7_common (d + 4) (RQ h (commonR F (a : Int) t w)) 52 [some (.ref m), some (.int (zI ((a : Int)))), some (.int (zI (t))), some (.int (zI (w))), some (.int (zI (x4))), some (.int (zI (x5))), some (.int (zI ((L : Int)))), some (.int (zI (x7))), none, none] [] h 0 0 := by
                intro n52
                induction n52 with
                | zero => intro _ _ _ _ _ hm; exact absurd hm (Nat.not_lt_zero _)
                | succ n52 ih52 =>
                  intro j x4 x5 x7 hj hm52 e4 e5 e7
                  subst e4 e5 e7
                  have hci := cmS_in (F := F) (t := t) ha6 (8 * L + j)
                  have hcj := cmF2_in (F := F) (t := t) ha6 (8 * L + j)
                  have hcg := chgN_le (F := F) ha6 (j : Int) (t + (L : Int))
                  refine EV.iload (i := 7) dX7_common_52 rfl ?_
                  refine EV.bipush dX7_common_54 (by decide) ?_
                  refine EV.icmp_ge (t := 160) dX7_common_56 (by decide) (by omega) (fun c56 => ?_) (fun c56 => ?_)
                  · skip
                    obtain rfl : j = 8 := by omega
                    refine EV.iinc (i := 6) (lv' := [some (.ref m), some (.int (zI ((a : Int)))), some (.int (zI (t))), some (.int (zI (w))), some (.int (zI (cmF2 (cmS F a t (8 * L + (8 : Nat)))))), some (.int (zI (cmW (cmS F a t (8 * L + (8 : Nat)))))), some (.int (zI ((L : Int) + 1))), some (.int (zI (((8 : Nat) : Int)))), none, none]) dX7_common_160 rfl (by decide) rfl ?_
                    refine EV.goto (t := 42) dX7_common_163 (by decide) ?_
                    refine EV.drop 7 (lv' := [some (.ref m), some (.int (zI ((a : Int)))), some (.int (zI (t))), some (.int (zI (w))), some (.int (zI (cmF2 (cmS F a t (8 * L + (8 : Nat)))))), some (.int (zI (cmW (cmS F a t (8 * L + (8 : Nat)))))), some (.int (zI (((L : Int) + 1)))), none, none, none]) rfl ?_
                    exact ih42 (L + 1) _ _ _ (by omega) (by omega) (rfl) (rfl) (rfl)
                  · skip
                    refine EV.iload_n (i := 1) dX7_common_59 rfl rfl ?_
                    refine EV.aload_n (i := 0) dX7_common_60 rfl rfl ?_
                    refine EV.aload_n (i := 0) dX7_common_61 rfl rfl ?_
                    refine EV.getf fl_X7_41 dX7_common_62 hcm rfl ?_
                    refine EV.iload (i := 7) dX7_common_65 rfl ?_
                    refine EV.iload_n (i := 2) dX7_common_67 rfl rfl ?_
                    refine EV.iload (i := 6) dX7_common_68 rfl ?_
                    refine EV.iadd dX7_common_70 ?_
                    refine EV.callVr (M' := mX7_having) (as := [.int (zI ((F.1 : Int))), .int (zI ((j : Int))), .int (zI ((t + (L : Int))))]) (rest := [.int (zI ((a : Int)))]) ml_X7_84 im_X7_having se_X7_having rfl co_X7_having dX7_common_71 hcm (c_X7_having (d + 1) hM hW F.1 (j : Int) (t + (L : Int)) (by omega) hsf (by omega) (by omega)) rfl rfl (Nat.le_of_ble_eq_true rfl) ?_
                    refine EV.top (y := zI ((hv F (j : Int) (t + (L : Int)) : Int))) (rfl) ?_
                    have hvl := hv_lt F (j : Int) (t + (L : Int))
                    refine EV.iconst dX7_common_74 ?_
                    refine EV.ixorW dX7_common_75 ?_
                    refine EV.iandW dX7_common_76 ?_
                    refine EV.top (y := zI (((a &&& (63 ^^^ hv F (j : Int) (t + (L : Int))) : Nat) : Int))) (clr_g a ha6 _ (hv_lt F _ _)) ?_
                    refine EV.callSr (M' := mX7_bits) (as := [.int (zI (((a &&& (63 ^^^ hv F (j : Int) (t + (L : Int))) : Nat) : Int)))]) (rest := []) ml_X7_70 sm_X7_bits co_X7_bits dX7_common_77 (c_X7_bits (d + 2) (a &&& (63 ^^^ hv F (j : Int) (t + (L : Int)))) (Nat.lt_of_le_of_lt Nat.and_le_left (by omega))) rfl rfl (Nat.le_of_ble_eq_true rfl) ?_
                    refine EV.istore (i := 8) (lv' := [some (.ref m), some (.int (zI ((a : Int)))), some (.int (zI (t))), some (.int (zI (w))), some (.int (zI (cmF2 (cmS F a t (8 * L + j))))), some (.int (zI (cmW (cmS F a t (8 * L + j))))), some (.int (zI ((L : Int)))), some (.int (zI ((j : Int)))), some (.int (zI ((chgN F a (j : Int) (t + (L : Int)) : Int)))), none]) dX7_common_80 (by decide) rfl ?_
                    refine EV.aload_n (i := 0) dX7_common_82 rfl rfl ?_
                    refine EV.aload_n (i := 0) dX7_common_83 rfl rfl ?_
                    refine EV.getf fl_X7_41 dX7_common_84 hcm rfl ?_
                    refine EV.iload (i := 7) dX7_common_87 rfl ?_
                    refine EV.iload_n (i := 2) dX7_common_89 rfl rfl ?_
                    refine EV.iload (i := 6) dX7_common_90 rfl ?_
                    refine EV.iadd dX7_common_92 ?_
                    refine EV.callVr (M' := mX7_having) (as := [.int (zI ((F.1 : Int))), .int (zI ((j : Int))), .int (zI ((t + (L : Int))))]) (rest := []) ml_X7_84 im_X7_having se_X7_having rfl co_X7_having dX7_common_93 hcm (c_X7_having (d + 1) hM hW F.1 (j : Int) (t + (L : Int)) (by omega) hsf (by omega) (by omega)) rfl rfl (Nat.le_of_ble_eq_true rfl) ?_
                    refine EV.top (y := zI ((hv F (j : Int) (t + (L : Int)) : Int))) (rfl) ?_
                    have hvl := hv_lt F (j : Int) (t + (L : Int))
                    refine EV.ifeq (t := 103) dX7_common_96 (by decide) (by omega) (fun c96 => ?_) (fun c96 => ?_)
                    · skip
                      refine EV.iconst dX7_common_103 ?_
                      refine EV.istore (i := 9) (lv' := [some (.ref m), some (.int (zI ((a : Int)))), some (.int (zI (t))), some (.int (zI (w))), some (.int (zI (cmF2 (cmS F a t (8 * L + j))))), some (.int (zI (cmW (cmS F a t (8 * L + j))))), some (.int (zI ((L : Int)))), some (.int (zI ((j : Int)))), some (.int (zI ((chgN F a (j : Int) (t + (L : Int)) : Int)))), some (.int (zI (0)))]) dX7_common_104 (by decide) rfl ?_
                      refine EV.iload (i := 9) dX7_common_106 rfl ?_
                      refine EV.ifeq (t := 129) dX7_common_108 (by decide) (by omega) (fun c108 => ?_) (fun c108 => ?_)
                      · skip
                        refine EV.iload (i := 5) dX7_common_129 rfl ?_
                        refine EV.istore (i := 5) (lv' := [some (.ref m), some (.int (zI ((a : Int)))), some (.int (zI (t))), some (.int (zI (w))), some (.int (zI (cmF2 (cmS F a t (8 * L + j))))), some (.int (zI (cmW (cmS F a t (8 * L + j))))), some (.int (zI ((L : Int)))), some (.int (zI ((j : Int)))), some (.int (zI ((chgN F a (j : Int) (t + (L : Int)) : Int)))), some (.int (zI (0)))]) dX7_common_131 (by decide) rfl ?_
                        refine EV.iload (i := 9) dX7_common_133 rfl ?_
                        refine EV.ifeq (t := 150) dX7_common_135 (by decide) (by omega) (fun c135 => ?_) (fun c135 => ?_)
                        · skip
                          refine EV.iload (i := 4) dX7_common_150 rfl ?_
                          refine EV.istore (i := 4) (lv' := [some (.ref m), some (.int (zI ((a : Int)))), some (.int (zI (t))), some (.int (zI (w))), some (.int (zI (cmF2 (cmS F a t (8 * L + j))))), some (.int (zI (cmW (cmS F a t (8 * L + j))))), some (.int (zI ((L : Int)))), some (.int (zI ((j : Int)))), some (.int (zI ((chgN F a (j : Int) (t + (L : Int)) : Int)))), some (.int (zI (0)))]) dX7_common_152 (by decide) rfl ?_
                          refine EV.iinc (i := 7) (lv' := [some (.ref m), some (.int (zI ((a : Int)))), some (.int (zI (t))), some (.int (zI (w))), some (.int (zI (cmF2 (cmS F a t (8 * L + j))))), some (.int (zI (cmW (cmS F a t (8 * L + j))))), some (.int (zI ((L : Int)))), some (.int (zI ((j : Int) + 1))), some (.int (zI ((chgN F a (j : Int) (t + (L : Int)) : Int)))), some (.int (zI (0)))]) dX7_common_154 rfl (by decide) rfl ?_
                          refine EV.goto (t := 52) dX7_common_157 (by decide) ?_
                          refine EV.drop 8 (lv' := [some (.ref m), some (.int (zI ((a : Int)))), some (.int (zI (t))), some (.int (zI (w))), some (.int (zI (cmF2 (cmS F a t (8 * L + j))))), some (.int (zI (cmW (cmS F a t (8 * L + j))))), some (.int (zI ((L : Int)))), some (.int (zI (((j : Int) + 1)))), none, some (.int (zI (0)))]) rfl ?_
                          refine EV.drop 9 (lv' := [some (.ref m), some (.int (zI ((a : Int)))), some (.int (zI (t))), some (.int (zI (w))), some (.int (zI (cmF2 (cmS F a t (8 * L + j))))), some (.int (zI (cmW (cmS F a t (8 * L + j))))), some (.int (zI ((L : Int)))), some (.int (zI (((j : Int) + 1)))), none, none]) rfl ?_
                          exact ih52 (j + 1) _ _ _ (by omega) (by omega) (congrArg cmF2 (cm_n2 ha6 (by omega) (Or.inl c96))) (congrArg cmW (cm_n2 ha6 (by omega) (Or.inl c96))) (rfl)
                        · skip
                          omega
                      · skip
                        omega
                    · skip
                      refine EV.iconst dX7_common_99 ?_
                      refine EV.goto (t := 104) dX7_common_100 (by decide) ?_
                      refine EV.istore (i := 9) (lv' := [some (.ref m), some (.int (zI ((a : Int)))), some (.int (zI (t))), some (.int (zI (w))), some (.int (zI (cmF2 (cmS F a t (8 * L + j))))), some (.int (zI (cmW (cmS F a t (8 * L + j))))), some (.int (zI ((L : Int)))), some (.int (zI ((j : Int)))), some (.int (zI ((chgN F a (j : Int) (t + (L : Int)) : Int)))), some (.int (zI (1)))]) dX7_common_104 (by decide) rfl ?_
                      refine EV.iload (i := 9) dX7_common_106 rfl ?_
                      refine EV.ifeq (t := 129) dX7_common_108 (by decide) (by omega) (fun c108 => ?_) (fun c108 => ?_)
                      · skip
                        omega
                      · skip
                        refine EV.iload (i := 8) dX7_common_111 rfl ?_
                        refine EV.iload (i := 4) dX7_common_113 rfl ?_
                        refine EV.icmp_ge (t := 129) dX7_common_115 (by decide) (by omega) (fun c115 => ?_) (fun c115 => ?_)
                        · skip
                          refine EV.iload (i := 5) dX7_common_129 rfl ?_
                          refine EV.istore (i := 5) (lv' := [some (.ref m), some (.int (zI ((a : Int)))), some (.int (zI (t))), some (.int (zI (w))), some (.int (zI (cmF2 (cmS F a t (8 * L + j))))), some (.int (zI (cmW (cmS F a t (8 * L + j))))), some (.int (zI ((L : Int)))), some (.int (zI ((j : Int)))), some (.int (zI ((chgN F a (j : Int) (t + (L : Int)) : Int)))), some (.int (zI (1)))]) dX7_common_131 (by decide) rfl ?_
                          refine EV.iload (i := 9) dX7_common_133 rfl ?_
                          refine EV.ifeq (t := 150) dX7_common_135 (by decide) (by omega) (fun c135 => ?_) (fun c135 => ?_)
                          · skip
                            omega
                          · skip
                            refine EV.iload (i := 8) dX7_common_138 rfl ?_
                            refine EV.iload (i := 4) dX7_common_140 rfl ?_
                            refine EV.icmp_ge (t := 150) dX7_common_142 (by decide) (by omega) (fun c142 => ?_) (fun c142 => ?_)
                            · skip
                              refine EV.iload (i := 4) dX7_common_150 rfl ?_
                              refine EV.istore (i := 4) (lv' := [some (.ref m), some (.int (zI ((a : Int)))), some (.int (zI (t))), some (.int (zI (w))), some (.int (zI (cmF2 (cmS F a t (8 * L + j))))), some (.int (zI (cmW (cmS F a t (8 * L + j))))), some (.int (zI ((L : Int)))), some (.int (zI ((j : Int)))), some (.int (zI ((chgN F a (j : Int) (t + (L : Int)) : Int)))), some (.int (zI (1)))]) dX7_common_152 (by decide) rfl ?_
                              refine EV.iinc (i := 7) (lv' := [some (.ref m), some (.int (zI ((a : Int)))), some (.int (zI (t))), some (.int (zI (w))), some (.int (zI (cmF2 (cmS F a t (8 * L + j))))), some (.int (zI (cmW (cmS F a t (8 * L + j))))), some (.int (zI ((L : Int)))), some (.int (zI ((j : Int) + 1))), some (.int (zI ((chgN F a (j : Int) (t + (L : Int)) : Int)))), some (.int (zI (1)))]) dX7_common_154 rfl (by decide) rfl ?_
                              refine EV.goto (t := 52) dX7_common_157 (by decide) ?_
                              refine EV.drop 8 (lv' := [some (.ref m), some (.int (zI ((a : Int)))), some (.int (zI (t))), some (.int (zI (w))), some (.int (zI (cmF2 (cmS F a t (8 * L + j))))), some (.int (zI (cmW (cmS F a t (8 * L + j))))), some (.int (zI ((L : Int)))), some (.int (zI (((j : Int) + 1)))), none, some (.int (zI (1)))]) rfl ?_
                              refine EV.drop 9 (lv' := [some (.ref m), some (.int (zI ((a : Int)))), some (.int (zI (t))), some (.int (zI (w))), some (.int (zI (cmF2 (cmS F a t (8 * L + j))))), some (.int (zI (cmW (cmS F a t (8 * L + j))))), some (.int (zI ((L : Int)))), some (.int (zI (((j : Int) + 1)))), none, none]) rfl ?_
                              exact ih52 (j + 1) _ _ _ (by omega) (by omega) (congrArg cmF2 (cm_n2 ha6 (by omega) (Or.inr (by omega)))) (congrArg cmW (cm_n2 ha6 (by omega) (Or.inr (by omega)))) (rfl)
                            · skip
                              omega
                        · skip
                          refine EV.bipush dX7_common_118 (by decide) ?_
                          refine EV.iload (i := 6) dX7_common_120 rfl ?_
                          refine EV.imul dX7_common_122 ?_
                          refine EV.iload (i := 7) dX7_common_123 rfl ?_
                          refine EV.iadd dX7_common_125 ?_
                          refine EV.goto (t := 131) dX7_common_126 (by decide) ?_
                          refine EV.istore (i := 5) (lv' := [some (.ref m), some (.int (zI ((a : Int)))), some (.int (zI (t))), some (.int (zI (w))), some (.int (zI (cmF2 (cmS F a t (8 * L + j))))), some (.int (zI (((100 * (L : Int)) + (j : Int))))), some (.int (zI ((L : Int)))), some (.int (zI ((j : Int)))), some (.int (zI ((chgN F a (j : Int) (t + (L : Int)) : Int)))), some (.int (zI (1)))]) dX7_common_131 (by decide) rfl ?_
                          refine EV.iload (i := 9) dX7_common_133 rfl ?_
                          refine EV.ifeq (t := 150) dX7_common_135 (by decide) (by omega) (fun c135 => ?_) (fun c135 => ?_)
                          · skip
                            omega
                          · skip
                            refine EV.iload (i := 8) dX7_common_138 rfl ?_
                            refine EV.iload (i := 4) dX7_common_140 rfl ?_
                            refine EV.icmp_ge (t := 150) dX7_common_142 (by decide) (by omega) (fun c142 => ?_) (fun c142 => ?_)
                            · skip
                              omega
                            · skip
                              refine EV.iload (i := 8) dX7_common_145 rfl ?_
                              refine EV.goto (t := 152) dX7_common_147 (by decide) ?_
                              refine EV.istore (i := 4) (lv' := [some (.ref m), some (.int (zI ((a : Int)))), some (.int (zI (t))), some (.int (zI (w))), some (.int (zI ((chgN F a (j : Int) (t + (L : Int)) : Int)))), some (.int (zI (((100 * (L : Int)) + (j : Int))))), some (.int (zI ((L : Int)))), some (.int (zI ((j : Int)))), some (.int (zI ((chgN F a (j : Int) (t + (L : Int)) : Int)))), some (.int (zI (1)))]) dX7_common_152 (by decide) rfl ?_
                              refine EV.iinc (i := 7) (lv' := [some (.ref m), some (.int (zI ((a : Int)))), some (.int (zI (t))), some (.int (zI (w))), some (.int (zI ((chgN F a (j : Int) (t + (L : Int)) : Int)))), some (.int (zI (((100 * (L : Int)) + (j : Int))))), some (.int (zI ((L : Int)))), some (.int (zI ((j : Int) + 1))), some (.int (zI ((chgN F a (j : Int) (t + (L : Int)) : Int)))), some (.int (zI (1)))]) dX7_common_154 rfl (by decide) rfl ?_
                              refine EV.goto (t := 52) dX7_common_157 (by decide) ?_
                              refine EV.drop 8 (lv' := [some (.ref m), some (.int (zI ((a : Int)))), some (.int (zI (t))), some (.int (zI (w))), some (.int (zI ((chgN F a (j : Int) (t + (L : Int)) : Int)))), some (.int (zI (((100 * (L : Int)) + (j : Int))))), some (.int (zI ((L : Int)))), some (.int (zI (((j : Int) + 1)))), none, some (.int (zI (1)))]) rfl ?_
                              refine EV.drop 9 (lv' := [some (.ref m), some (.int (zI ((a : Int)))), some (.int (zI (t))), some (.int (zI (w))), some (.int (zI ((chgN F a (j : Int) (t + (L : Int)) : Int)))), some (.int (zI (((100 * (L : Int)) + (j : Int))))), some (.int (zI ((L : Int)))), some (.int (zI (((j : Int) + 1)))), none, none]) rfl ?_
                              exact ih52 (j + 1) _ _ _ (by omega) (by omega) ((cm_y2 ha6 (by omega) c96 (by omega)).1.symm) ((cm_y2 ha6 (by omega) c96 (by omega)).2.symm) (rfl)
              exact L52 _ 0 _ _ _ (by omega) (Nat.lt_succ_self _) (rfl) (rfl) (rfl)
        exact L42 _ 0 _ _ _ (by omega) (Nat.lt_succ_self _) (rfl) (rfl) (rfl)
      · skip
        have c25r := of_nrg c25
        refine EV.bipush dX7_common_28 (by decide) ?_
        refine EV.iret rfl dX7_common_30 ?_
        exact rQ (by simp [commonR, c25])
end
