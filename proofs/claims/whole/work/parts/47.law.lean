theorem and63 (x : Int32) : ∃ k : Nat, k < 64 ∧ x &&& zI 63 = zI (k : Int) := by
  refine ⟨(x.toBitVec &&& 63#32).toNat, ?_, ?_⟩
  · rw [BitVec.toNat_and]
    exact Nat.lt_of_le_of_lt Nat.and_le_right (by decide)
  · rw [zI_nat]
    apply Int32.toBitVec.inj
    show x.toBitVec &&& (zI 63).toBitVec = (nI _).toBitVec
    rw [nI_bv, BitVec.ofNat_toNat, BitVec.setWidth_eq]
    rfl
section
variable {G : GG} {b L : Nat} {xs : Nat → Int32} {l : Launch} {ax am : Nat}
set_option maxHeartbeats 4000000 in
theorem law_turn (hL : L ≤ 256) {i kc ks : Nat} {h : Hp} (hi : i + 4 ≤ L) (hs : SYS G ax am h) (ih : ∀ h' : Hp, SYS G ax am h' → EL G b L xs l 1195 [some (.ref b), some (.ref ax), some (.ref am), some (.int (zI ((i : Int))))] [] h' kc ks) : EL G b L xs l 26 [some (.ref b), some (.ref ax), some (.ref am), some (.int (zI ((i : Int))))] [] h (kc + 12) (ks + 106) := by
  refine EL.aload_n (i := 0) dL_law_26 rfl rfl ?_
  refine EL.iload_n (i := 3) dL_law_27 rfl rfl ?_
  refine EL.sld i rfl (by omega) hL dL_law_28 ?_
  refine EL.bipush dL_law_29 (by decide) ?_
  refine EL.iandW dL_law_31 ?_
  obtain ⟨k, hk, he⟩ := and63 (zI (sc xs i))
  refine EL.top he ?_
  rcases (show k = 0 ∨ k = 1 ∨ k = 2 ∨ k = 3 ∨ k = 4 ∨ k = 5 ∨ k = 6 ∨ k = 7 ∨ k = 8 ∨ k = 9 ∨ k = 10 ∨ k = 11 ∨ k = 12 ∨ k = 13 ∨ k = 14 ∨ k = 15 ∨ k = 16 ∨ k = 17 ∨ k = 18 ∨ k = 19 ∨ k = 20 ∨ k = 21 ∨ k = 22 ∨ k = 23 ∨ k = 24 ∨ k = 25 ∨ k = 26 ∨ k = 27 ∨ k = 28 ∨ k = 29 ∨ k = 30 ∨ k = 31 ∨ k = 32 ∨ k = 33 ∨ k = 34 ∨ 35 ≤ k by omega) with rfl | rfl | rfl | rfl | rfl | rfl | rfl | rfl | rfl | rfl | rfl | rfl | rfl | rfl | rfl | rfl | rfl | rfl | rfl | rfl | rfl | rfl | rfl | rfl | rfl | rfl | rfl | rfl | rfl | rfl | rfl | rfl | rfl | rfl | rfl | hk2
  · exact EL.tabIn (x := ((0 : Nat) : Int)) (off := 156) (t := 188) dL_law_32 ⟨by decide, by decide⟩ ⟨by decide, by decide⟩ rfl (by decide) (lc_say hL hi hs ih)
  · exact EL.tabIn (x := ((1 : Nat) : Int)) (off := 179) (t := 211) dL_law_32 ⟨by decide, by decide⟩ ⟨by decide, by decide⟩ rfl (by decide) (lc_wipe hL hi hs ih)
  · exact EL.tabIn (x := ((2 : Nat) : Int)) (off := 192) (t := 224) dL_law_32 ⟨by decide, by decide⟩ ⟨by decide, by decide⟩ rfl (by decide) (lc_fault hL hi hs ih)
  · exact EL.tabIn (x := ((3 : Nat) : Int)) (off := 215) (t := 247) dL_law_32 ⟨by decide, by decide⟩ ⟨by decide, by decide⟩ rfl (by decide) (lc_born hL hi hs ih)
  · exact EL.tabIn (x := ((4 : Nat) : Int)) (off := 248) (t := 280) dL_law_32 ⟨by decide, by decide⟩ ⟨by decide, by decide⟩ rfl (by decide) (lc_exile hL hi hs ih)
  · exact EL.tabIn (x := ((5 : Nat) : Int)) (off := 271) (t := 303) dL_law_32 ⟨by decide, by decide⟩ ⟨by decide, by decide⟩ rfl (by decide) (lc_plan hL hi hs ih)
  · exact EL.tabIn (x := ((6 : Nat) : Int)) (off := 284) (t := 316) dL_law_32 ⟨by decide, by decide⟩ ⟨by decide, by decide⟩ rfl (by decide) (lc_today hL hi hs ih)
  · exact EL.tabIn (x := ((7 : Nat) : Int)) (off := 317) (t := 349) dL_law_32 ⟨by decide, by decide⟩ ⟨by decide, by decide⟩ rfl (by decide) (lc_same hL hi hs ih)
  · exact EL.tabIn (x := ((8 : Nat) : Int)) (off := 350) (t := 382) dL_law_32 ⟨by decide, by decide⟩ ⟨by decide, by decide⟩ rfl (by decide) (lc_next hL hi hs ih)
  · exact EL.tabIn (x := ((9 : Nat) : Int)) (off := 393) (t := 425) dL_law_32 ⟨by decide, by decide⟩ ⟨by decide, by decide⟩ rfl (by decide) (lc_meet hL hi hs ih)
  · exact EL.tabIn (x := ((10 : Nat) : Int)) (off := 436) (t := 468) dL_law_32 ⟨by decide, by decide⟩ ⟨by decide, by decide⟩ rfl (by decide) (lc_shared hL hi hs ih)
  · exact EL.tabIn (x := ((11 : Nat) : Int)) (off := 469) (t := 501) dL_law_32 ⟨by decide, by decide⟩ ⟨by decide, by decide⟩ rfl (by decide) (lc_never hL hi hs ih)
  · exact EL.tabIn (x := ((12 : Nat) : Int)) (off := 492) (t := 524) dL_law_32 ⟨by decide, by decide⟩ ⟨by decide, by decide⟩ rfl (by decide) (lc_market hL hi hs ih)
  · exact EL.tabIn (x := ((13 : Nat) : Int)) (off := 535) (t := 567) dL_law_32 ⟨by decide, by decide⟩ ⟨by decide, by decide⟩ rfl (by decide) (lc_can hL hi hs ih)
  · exact EL.tabIn (x := ((14 : Nat) : Int)) (off := 568) (t := 600) dL_law_32 ⟨by decide, by decide⟩ ⟨by decide, by decide⟩ rfl (by decide) (lc_month hL hi hs ih)
  · exact EL.tabIn (x := ((15 : Nat) : Int)) (off := 601) (t := 633) dL_law_32 ⟨by decide, by decide⟩ ⟨by decide, by decide⟩ rfl (by decide) (lc_barred hL hi hs ih)
  · exact EL.tabIn (x := ((16 : Nat) : Int)) (off := 614) (t := 646) dL_law_32 ⟨by decide, by decide⟩ ⟨by decide, by decide⟩ rfl (by decide) (lc_why hL hi hs ih)
  · exact EL.tabIn (x := ((17 : Nat) : Int)) (off := 637) (t := 669) dL_law_32 ⟨by decide, by decide⟩ ⟨by decide, by decide⟩ rfl (by decide) (lc_common hL hi hs ih)
  · exact EL.tabIn (x := ((18 : Nat) : Int)) (off := 680) (t := 712) dL_law_32 ⟨by decide, by decide⟩ ⟨by decide, by decide⟩ rfl (by decide) (lc_wedding hL hi hs ih)
  · exact EL.tabIn (x := ((19 : Nat) : Int)) (off := 723) (t := 755) dL_law_32 ⟨by decide, by decide⟩ ⟨by decide, by decide⟩ rfl (by decide) (lc_best hL hi hs ih)
  · exact EL.tabIn (x := ((20 : Nat) : Int)) (off := 756) (t := 788) dL_law_32 ⟨by decide, by decide⟩ ⟨by decide, by decide⟩ rfl (by decide) (lc_feast hL hi hs ih)
  · exact EL.tabIn (x := ((21 : Nat) : Int)) (off := 779) (t := 811) dL_law_32 ⟨by decide, by decide⟩ ⟨by decide, by decide⟩ rfl (by decide) (lc_feasts hL hi hs ih)
  · exact EL.tabIn (x := ((22 : Nat) : Int)) (off := 802) (t := 834) dL_law_32 ⟨by decide, by decide⟩ ⟨by decide, by decide⟩ rfl (by decide) (lc_poor hL hi hs ih)
  · exact EL.tabIn (x := ((23 : Nat) : Int)) (off := 815) (t := 847) dL_law_32 ⟨by decide, by decide⟩ ⟨by decide, by decide⟩ rfl (by decide) (lc_twins hL hi hs ih)
  · exact EL.tabIn (x := ((24 : Nat) : Int)) (off := 838) (t := 870) dL_law_32 ⟨by decide, by decide⟩ ⟨by decide, by decide⟩ rfl (by decide) (lc_oneOrder hL hi hs ih)
  · exact EL.tabIn (x := ((25 : Nat) : Int)) (off := 871) (t := 903) dL_law_32 ⟨by decide, by decide⟩ ⟨by decide, by decide⟩ rfl (by decide) (lc_seen hL hi hs ih)
  · exact EL.tabIn (x := ((26 : Nat) : Int)) (off := 904) (t := 936) dL_law_32 ⟨by decide, by decide⟩ ⟨by decide, by decide⟩ rfl (by decide) (lc_forget hL hi hs ih)
  · exact EL.tabIn (x := ((27 : Nat) : Int)) (off := 917) (t := 949) dL_law_32 ⟨by decide, by decide⟩ ⟨by decide, by decide⟩ rfl (by decide) (lc_whose hL hi hs ih)
  · exact EL.tabIn (x := ((28 : Nat) : Int)) (off := 940) (t := 972) dL_law_32 ⟨by decide, by decide⟩ ⟨by decide, by decide⟩ rfl (by decide) (lc_sure hL hi hs ih)
  · exact EL.tabIn (x := ((29 : Nat) : Int)) (off := 963) (t := 995) dL_law_32 ⟨by decide, by decide⟩ ⟨by decide, by decide⟩ rfl (by decide) (lc_chance hL hi hs ih)
  · exact EL.tabIn (x := ((30 : Nat) : Int)) (off := 1007) (t := 1039) dL_law_32 ⟨by decide, by decide⟩ ⟨by decide, by decide⟩ rfl (by decide) (lc_shares hL hi hs ih)
  · exact EL.tabIn (x := ((31 : Nat) : Int)) (off := 1051) (t := 1083) dL_law_32 ⟨by decide, by decide⟩ ⟨by decide, by decide⟩ rfl (by decide) (lc_year hL hi hs ih)
  · exact EL.tabIn (x := ((32 : Nat) : Int)) (off := 1094) (t := 1126) dL_law_32 ⟨by decide, by decide⟩ ⟨by decide, by decide⟩ rfl (by decide) (lc_image hL hi hs ih)
  · exact EL.tabIn (x := ((33 : Nat) : Int)) (off := 1117) (t := 1149) dL_law_32 ⟨by decide, by decide⟩ ⟨by decide, by decide⟩ rfl (by decide) (lc_restore hL hi hs ih)
  · exact EL.tabIn (x := ((34 : Nat) : Int)) (off := 1140) (t := 1172) dL_law_32 ⟨by decide, by decide⟩ ⟨by decide, by decide⟩ rfl (by decide) (lc_told hL hi hs ih)
  · exact EL.tabOut (x := (k : Int)) (t := 1195) dL_law_32 ⟨by omega, by omega⟩ (Or.inr (by omega)) (by decide) (EL.kle (by omega) (by omega) (ih h hs))
theorem law_loop (hL : L ≤ 256) : ∀ (r i : Nat) (h : Hp), i ≤ 260 → L < i + 4 * r + 4 → SYS G ax am h → EL G b L xs l 18 [some (.ref b), some (.ref ax), some (.ref am), some (.int (zI ((i : Int))))] [] h (12 * r) (106 * r) := by
  intro r
  induction r with
  | zero =>
    intro i h hi hl hs
    refine EL.iload_n (i := 3) dL_law_18 rfl rfl ?_
    refine EL.aload_n (i := 0) dL_law_19 rfl rfl ?_
    refine EL.slen dL_law_20 ?_
    refine EL.iconst dL_law_21 ?_
    refine EL.isub dL_law_22 ?_
    refine EL.icmp_gt (t := 1201) dL_law_23 (by decide) ⟨⟨by omega, by omega⟩, ⟨by omega, by omega⟩⟩ (fun c1 => ?_) (fun c1 => ?_)
    · refine EL.iconst dL_law_1201 ?_
      exact EL.end1 dL_law_1202
    · exfalso; omega
  | succ r ih =>
    intro i h hi hl hs
    refine EL.iload_n (i := 3) dL_law_18 rfl rfl ?_
    refine EL.aload_n (i := 0) dL_law_19 rfl rfl ?_
    refine EL.slen dL_law_20 ?_
    refine EL.iconst dL_law_21 ?_
    refine EL.isub dL_law_22 ?_
    refine EL.icmp_gt (t := 1201) dL_law_23 (by decide) ⟨⟨by omega, by omega⟩, ⟨by omega, by omega⟩⟩ (fun c1 => ?_) (fun c1 => ?_)
    · refine EL.iconst dL_law_1201 ?_
      exact EL.end1 dL_law_1202
    · rw [Nat.mul_succ, Nat.mul_succ]
      refine law_turn hL (by omega) hs (fun h' hs' => ?_)
      refine EL.iinc (i := 3) (lv' := [some (.ref b), some (.ref ax), some (.ref am), some (.int (zI (((i + 4 : Nat) : Int))))]) dL_law_1195 rfl (by decide) rfl ?_
      refine EL.goto (t := 18) dL_law_1198 (by decide) ?_
      exact ih (i + 4) h' (by omega) (by omega) hs'
set_option maxHeartbeats 4000000 in
theorem law_start (hL : L ≤ 256) : EL G b L xs l 0 [some (.ref b), none, none, none] [] (fun _ => none) 600000 7302250 := by
  refine EL.new (fs := [.null, .null, .null, .null]) fn_L_7 dL_law_0 df_X6 (Nat.le_of_ble_eq_true rfl) (Nat.le_of_ble_eq_true rfl) (fun q0 n0 => ?_)
  refine EL.dup dL_law_3 rfl ?_
  refine EL.callI (M' := mX6_init) (d := 29) (as := []) (rest := [.ref q0]) rfl rfl ml_L_9 im_X6_init co_X6_init dL_law_4 (c_X6_init 25 (hset_s _ _ _)) (by decide) rfl rfl (Nat.le_of_ble_eq_true rfl) (Nat.le_of_ble_eq_true rfl) (Nat.le_of_ble_eq_true rfl) (fun v1 h1 q1 => ?_)
  obtain ⟨rfl, a, ha, w⟩ := q1
  refine EL.sts (st' := [.ref q0]) rfl ?_
  refine EL.astore_n (i := 1) (lv' := [some (.ref b), some (.ref q0), none, none]) dL_law_7 rfl (by decide) rfl ?_
  refine EL.new (fs := [.int (zI (0)), .null, .null, .null, .int (zI (0)), .null, .null, .int (zI (0)), .null, .int (zI (0)), .null, .null, .null, .null]) fn_L_10 dL_law_8 df_X7 (Nat.le_of_ble_eq_true rfl) (Nat.le_of_ble_eq_true rfl) (fun q1 n1 => ?_)
  refine EL.dup dL_law_11 rfl ?_
  refine EL.callI (M' := mX7_init) (d := 29) (as := []) (rest := [.ref q1]) rfl rfl ml_L_12 im_X7_init co_X7_init dL_law_12 (c_X7_init 27 (hset_s _ _ _)) (by decide) rfl rfl (Nat.le_of_ble_eq_true rfl) (Nat.le_of_ble_eq_true rfl) (Nat.le_of_ble_eq_true rfl) (fun v2 h2 q2 => ?_)
  obtain ⟨rfl, a2, ha2, w2⟩ := q2
  refine EL.sts (st' := [.ref q1]) rfl ?_
  refine EL.astore_n (i := 2) (lv' := [some (.ref b), some (.ref q0), some (.ref q1), none]) dL_law_15 rfl (by decide) rfl ?_
  refine EL.iconst dL_law_16 ?_
  refine EL.istore_n (i := 3) (lv' := [some (.ref b), some (.ref q0), some (.ref q1), some (.int (zI ((0 : Nat) : Int)))]) dL_law_17 rfl (by decide) rfl ?_
  exact EL.kle (kc' := 12 * 64) (ks' := 106 * 64) (Nat.le_of_ble_eq_true rfl) (Nat.le_of_ble_eq_true rfl) (law_loop hL 64 0 _ (by omega) (by omega) (SYS_0 ha ha2 w n1 w2))
end
theorem nb_in : ∀ q ∈ NBt, Cond.methodLinkNest q.1 q.2.1 q.2.2.1 q.2.2.2 ∈ lw_tbl := by decide +kernel
theorem ao_in : Cond.arrayOver (.object RX1) ∈ lw_tbl := by decide +kernel
theorem cx_ex {p : Program} {s : State} {m : MethodId} {meth : Method} {c : Code} {b L : Nat} {xs : Nat → Int32} (h : lw_At p s m meth c b L xs) : ∃ G : GG, Cx G s := by
  have hts := lw_TB h
  obtain ⟨c0, i0, k0⟩ := u_known (C := RX0) (T := TX0) (N := 5) (n := 5) hts in_X0 (hts (.instantiable RX0 5) (by decide +kernel))
  obtain ⟨c1, i1, k1⟩ := u_known (C := RX1) (T := TX1) (N := 3) (n := 3) hts in_X1 (hts (.instantiable RX1 3) (by decide +kernel))
  obtain ⟨c2, i2, k2⟩ := u_known (C := RX2) (T := TX2) (N := 7) (n := 7) hts in_X2 (hts (.instantiable RX2 7) (by decide +kernel))
  obtain ⟨c3, i3, k3⟩ := u_known (C := RX3) (T := TX3) (N := 2) (n := 2) hts in_X3 (hts (.instantiable RX3 2) (by decide +kernel))
  obtain ⟨c4, i4, k4⟩ := u_known (C := RX4) (T := TX4) (N := 3) (n := 3) hts in_X4 (hts (.instantiable RX4 3) (by decide +kernel))
  obtain ⟨c5, i5, k5⟩ := u_known (C := RX5) (T := TX5) (N := 3) (n := 3) hts in_X5 (hts (.instantiable RX5 3) (by decide +kernel))
  obtain ⟨c6, i6, k6⟩ := u_known (C := RX6) (T := TX6) (N := 4) (n := 4) hts in_X6 (hts (.instantiable RX6 4) (by decide +kernel))
  obtain ⟨c7, i7, k7⟩ := u_known (C := RX7) (T := TX7) (N := 14) (n := 14) hts in_X7 (hts (.instantiable RX7 14) (by decide +kernel))
  obtain ⟨cI, kI, pI, a1, a2, a3⟩ := Cond.arrayClass_spec (type := .int) (hts _ ac_int)
  obtain ⟨cZ, kZ, pZ, b1, b2, b3⟩ := Cond.arrayClass_spec (type := .boolean) (hts _ ac_boolean)
  have hao : (Cond.arrayOver (.object RX1)).before #[Value.ref b] s = true := h.2.2.2.2.2.1 _ ao_in
  obtain ⟨pM, cM, kM, d1, d2, d3, d4, d5⟩ := Cond.arrayOver_spec hao
  refine ⟨((fun k => match k with | 0 => c0 | 1 => c1 | 2 => c2 | 3 => c3 | 4 => c4 | 5 => c5 | 6 => c6 | _ => c7, fun k => match k with | 0 => i0 | 1 => i1 | 2 => i2 | 3 => i3 | 4 => i4 | 5 => i5 | 6 => i6 | _ => i7), cI, cZ, cM), ⟨fun k q hq => ?_, fun k q hq => ?_⟩, fun q hq => va_Nw.of rfl (h.2.2.2.2.2.1 _ (nb_in q hq)), va_AO.of hao⟩
  · match k, hq with
    | 0, hq => cases hq; exact k0
    | 1, hq => cases hq; exact k1
    | 2, hq => cases hq; exact k2
    | 3, hq => cases hq; exact k3
    | 4, hq => cases hq; exact k4
    | 5, hq => cases hq; exact k5
    | 6, hq => cases hq; exact k6
    | 7, hq => cases hq; exact k7
    | k + 8, hq => simp [vwCl] at hq
  · match k, hq with
    | 0, hq => cases hq; exact ⟨fun n z => ⟨fun k h => (by cases h), kI, a2, pI, a3⟩, a1⟩
    | 1, hq => cases hq; exact ⟨fun n z => ⟨fun k h => (by cases h), kZ, b2, pZ, b3⟩, b1⟩
    | 2, hq => cases hq; exact ⟨fun n z => ⟨fun k h => (by cases h), kM, d3, pM, d4⟩, kM, pM, d3, d4, d1, d5⟩
    | k + 3, hq => simp [tysG] at hq
theorem whole_start {p : Program} {e : Env} {s : State} {m : MethodId} {below : List Frame} {meth : Method} {c : Code} (l : Launch) (hflags : l.flags = flags0) {b L : Nat} {xs : Nat → Int32} (hL : L ≤ 256) (C0 : lw_At p s m meth c b L xs) : W p l e room_1 s m #[Value.ref b] below meth c s.heap [] 0 0 (lw_Z below #[Value.ref b] s) (entryFrame m ([Value.ref b] : List Value).toArray 4) := by
  obtain ⟨G, hX⟩ := cx_ex C0
  have hl := lv_entry ([.ref b]) (n := 4) (Nat.le_of_ble_eq_true rfl)
  rw [lg_entry_eq]
  generalize (lg_sl ([.ref b]) ++ List.replicate (4 - (lg_sl ([.ref b])).length) Slot.unset).toArray = ls at hl ⊢
  have hl : lv_has ls 4 [(0, .ref b)] := hl
  refine law_start (G := G) (l := l) hL p e s m below meth c s.heap [] 0 0 ls C0 hX va_S.rf ⟨[], fun k q h => by simp at h, ⟨fun i j p q h => by simp at h, fun k q h => by simp at h⟩, fun a e h => by simp at h⟩ (fun q hq => by simp at hq) ⟨hl.1, hl.2.1, fun i v hi => ?_⟩ (Nat.le_of_ble_eq_true rfl) (Nat.le_of_ble_eq_true rfl)
  match i, hi with
  | 0, hi => cases hi; exact ⟨hl.2.2 (0, .ref b) List.mem_cons_self, rfl⟩
  | 1, hi => cases hi
  | 2, hi => cases hi
  | 3, hi => cases hi
  | k + 4, hi => simp at hi
set_option maxHeartbeats 4000000 in
theorem lw_walk (l : Launch) (hflags : l.flags = flags0) (b : Addr) (xs : List Int32) : MetFree l x (headSpec (Jvm.Cond.code x code maxLocals ret :: tables_1) room_1) (lw_P b xs) (fun _ _ _ _ _ => True) lw_Q := by
  refine MetFree.of_bodyS (code := code) (maxLocals := maxLocals) (ret := ret) (by decide) ?_ ?_
  · intro args s m h hn
    obtain ⟨meth, c, h1, h2, h3, h4, h5, h6, -, -⟩ := Cond.code_spec hn (atoms_spec (ws := Jvm.Cond.code x code maxLocals ret :: tables_1) h _ List.mem_cons_self)
    exact ⟨meth, c, h1, h2, h3, h4, h5, h6⟩
  · intro p e s m args below meth c s₁ B hml0 hP _
    obtain ⟨rfl, hx, hbd, hgv⟩ := hP
    obtain ⟨scr, harrAt, hlist, hof, hsmall⟩ := hx
    obtain ⟨hcb, hkn, -, -⟩ := State.arrayAt?_spec harrAt
    have hown : s.vm.findClass R_law = some m.cls := findClass_of_methodNamed B.named
    have hts0 : ∀ c ∈ (Jvm.Cond.code x code maxLocals ret :: tables_1), c.before #[Value.ref b] s = true := atoms_spec (ws := Jvm.Cond.code x code maxLocals ret :: tables_1) B.pre
    have hts : ∀ w ∈ lw_tbl, w.before #[Value.ref b] s = true := k2_hts_sels lw_privs (fun w hw => hts0 w (List.mem_cons_of_mem _ hw)) lw_privs_ok
    have hml : c.maxLocals = 4 := B.maxLocals_eq (hts0 _ List.mem_cons_self)
    have X₀ : Stand p l e room_1 s m #[Value.ref b] below meth c s₁ [] 0 0 := Stand.of_body B
    have hh0 : s₁.heap = s.heap := by rw [B.state]; rfl
    have hsz : scr.slots.size = xs.length := by rw [← Array.length_toList, hlist, List.length_map]
    have hval : ∀ j : Nat, j < xs.length → scr.slots[j]? = some (.int (xs.getD j 0)) := fun j hj => by
      rw [← Array.getElem?_toList, hlist]
      simp [hj]
    have hbl : b < s.heap.size := (Array.getElem?_eq_some_iff.mp hcb).1
    have hX : va_X b xs.length (fun j => xs.getD j 0) s s.heap := ⟨scr, hcb, hof, hkn, hsz, hval⟩
    have K : W p l e room_1 s m #[Value.ref b] below meth c s₁.heap [] 0 0 (lw_Z below #[Value.ref b] s) (entryFrame m ([Value.ref b] : List Value).toArray 4) := by
      rw [hh0]
      exact whole_start l hflags hbd ⟨B.exec, B.bytes, B.returns, hml, hown, hts, hX, hbl, B.notSynchronized, hgv⟩
    obtain ⟨t, a1, o, b1, b2, b3⟩ := K s₁ rfl X₀
    exact ⟨t, o, a1, b1, b2, b3⟩
theorem lw_pre_spec {args : Array Value} {s : State} (h : (Jvm.Cond.and given_1 narrow_1).before args s = true) (hr : rest_1_c.before args s = true) : ∃ (b : Addr) (xs : List Int32), lw_P b xs args s := by
  have hs := flat_of_before _ h
  have hq := flat_of_before _ hr
  have hc : (Cond.count 1).before args s = true := hs _ (by decide +kernel)
  have harr : (Cond.arrayOf (.arg 0) .int).before args s = true := hs _ (by decide +kernel)
  have hle : (Cond.le (.length (.arg 0)) (.int 256)).before args s = true := hs _ (by decide +kernel)
  have hlen : (Cond.isInt (.length (.arg 0))).before args s = true := hq _ (by decide +kernel)
  have hall : (Cond.all (.arg 0) (.isInt (.elem (.arg 0) (.index 0)))).before args s = true := hq _ (by decide +kernel)
  obtain ⟨b, xs, hb, hx⟩ := State.ints_of_pre rfl harr hlen hall
  have hsm : xs.length < 2 ^ 31 := hx.choose_spec.2.2.2
  have hev : (Term.length (.arg 0)).eval args s none [] s = some (.int xs.length.toInt32) := hx.length_eval hb
  have hv := Cond.le_ints hev (show (Term.int 256).eval args s none [] s = some (.int 256) from rfl)
  have hd : xs.length.toInt32 ≤ 256 := by
    simpa [Cond.before, Cond.holds, hv] using hle
  have hN : xs.length ≤ 256 := (Int32.ofNat_le_ofNat hsm (by decide)).mp (show Int32.ofNat xs.length ≤ Int32.ofNat 256 from hd)
  exact ⟨b, xs, Cond.one_arg hc (show args[0]? = some (.ref b) from hb), hx, hN, h⟩
theorem lw_comes (l : Launch) (hflags : l.flags = flags0) : Comes l x (Jvm.Cond.code x code maxLocals ret :: tables_1) room_1 (fun tb e args s => Calls_1 tb e args s ∧ rest_1 tb e args s ∧ Pre_1 tb e args s)
    (fun _ _ args s o t => lw_Q args s o t) := by
  intro p e ha hc hk s m args below hf hfit hheap happ hpre
  obtain ⟨b, xs, hP⟩ := lw_pre_spec hpre.2.2 hpre.2.1
  obtain ⟨k, o, h1, h2, h3, hQ⟩ := lw_walk l hflags b xs p e ha hc hk s m args below hf ((Spec.applies_iff_loose hf).mp happ).1 hP trivial
  exact ⟨k, o, h1, h2, h3, hQ⟩
theorem lw_frame {s t : State} {o : Outcome} {args : Array Value} (h : Framed s o t [] 600000 7302250) :
    Framed s o t (fieldLocs frame_1_writes args s ++ arrayLocs frame_1_arrays args s ++ staticLocs frame_1_statics s) 600000 7302250 := h
theorem lw_limb (L : Cond) (hL : ∀ (args : Array Value) (s t : State), L.after args s (.returned (some (.int 1))) t = true) :
    ArmFor flags0 classFile x code maxLocals ret World_1 tables_1 room_1 Calls_1 rest_1 Pre_1
      (fun tb e a s o t => postC L tb e a s o t ∧ Framed s o t (fieldLocs frame_1_writes a s ++ arrayLocs frame_1_arrays a s ++ staticLocs frame_1_statics s) 600000 7302250) := by
  intro l hflags _ _ p e ha hc hk s m args below hf hfit hheap happ hpre
  obtain ⟨k, o, h1, h2, h3, rfl, hF⟩ := lw_comes l hflags p e ha hc hk s m args below hf hfit hheap happ hpre
  exact ⟨k, _, h1, h2, h3, hL args s _, lw_frame hF⟩
theorem i_vc : Claimed_1_1 ∧ Claimed_1_2 := ⟨lw_limb limb_1_1 (fun args s t => by simp [limb_1_1, Cond.after, Cond.holds, Cond.value]), lw_limb limb_1_2 (fun args s t => Cond.after_iff.mpr (by
  first | (rw [show limb_1_2 = Cond.eq .result (.int 1) from rfl, Cond.eq_ints (x := 1) (y := 1) rfl rfl]; simp; done) | (simp [limb_1_2, Cond.value, Term.eval]; done)))⟩
