def blkAt (G : GG) (h : Hp) (a : Nat → Nat) (L : LQ) : Prop := ∀ j, j < 12 → h (a j) = some (cL G a L j)
/-- from h to h1 only the block a changed; it is L now -/
def BK (G : GG) (h h1 : Hp) (a : Nat → Nat) (L : LQ) : Prop := blkAt G h1 a L ∧ ∀ q, (∀ j, j < 12 → q ≠ a j) → h1 q = h q
def inj12 (a : Nat → Nat) : Prop := ∀ i j, i < 12 → j < 12 → a i = a j → i = j
theorem BK.start {G : GG} {h : Hp} {a : Nat → Nat} {L : LQ} (B : blkAt G h a L) : BK G h h a L := ⟨B, fun _ _ => rfl⟩
theorem BK.get {G : GG} {h h1 : Hp} {a : Nat → Nat} {L : LQ} {e : va_E} (B : BK G h h1 a L) (j : Nat) (hj : j < 12) (he : cL G a L j = e) : h1 (a j) = some e := by rw [B.1 j hj, he]
theorem BK.oth {G : GG} {h h1 : Hp} {a b : Nat → Nat} {L L2 : LQ} {e : va_E} (B : BK G h h1 a L) (B2 : blkAt G h b L2) (hx : ∀ i j, i < 12 → j < 12 → b j ≠ a i) (j : Nat) (hj : j < 12) (he : cL G b L2 j = e) : h1 (b j) = some e := by
  rw [B.2 (b j) (fun i hi => hx i j hi hj), B2 j hj, he]
theorem BK.set {G : GG} {h h1 : Hp} {a : Nat → Nat} {L : LQ} {e : va_E} (B : BK G h h1 a L) (ha : inj12 a) (L' : LQ) (i : Nat) (hi : i < 12) (he : cL G a L' i = e) (ho : ∀ j, j < 12 → j ≠ i → cL G a L j = cL G a L' j) : BK G h (hset h1 (a i) e) a L' := by
  refine ⟨fun j hj => ?_, fun q hq => by rw [hset_n _ _ (hq i hi)]; exact B.2 q hq⟩
  by_cases e1 : j = i
  · subst e1; rw [hset_s, he]
  · rw [hset_n _ _ (fun z => e1 (ha j i hj hi z)), B.1 j hj, ho j hj e1]
theorem lt12 {p : Nat → Prop} (h0 : p 0) (h1 : p 1) (h2 : p 2) (h3 : p 3) (h4 : p 4) (h5 : p 5) (h6 : p 6) (h7 : p 7) (h8 : p 8) (h9 : p 9) (h10 : p 10) (h11 : p 11) : ∀ j, j < 12 → p j
  | 0, _ => h0
  | 1, _ => h1
  | 2, _ => h2
  | 3, _ => h3
  | 4, _ => h4
  | 5, _ => h5
  | 6, _ => h6
  | 7, _ => h7
  | 8, _ => h8
  | 9, _ => h9
  | 10, _ => h10
  | 11, _ => h11
  | k + 12, hk => absurd hk (by omega)
theorem BK.trans {G : GG} {h h1 h2 : Hp} {a : Nat → Nat} {L L' : LQ} (B : BK G h h1 a L) (B2 : BK G h1 h2 a L') : BK G h h2 a L' := ⟨B2.1, fun q hq => by rw [B2.2 q hq, B.2 q hq]⟩
theorem BK.oblk {G : GG} {h h1 : Hp} {a b : Nat → Nat} {L L2 : LQ} (B : BK G h h1 a L) (B2 : blkAt G h b L2) (hx : ∀ i j, i < 12 → j < 12 → b j ≠ a i) : blkAt G h1 b L2 := fun j hj => BK.oth B B2 hx j hj rfl
section
variable {G : GG} {l : Launch}
set_option maxHeartbeats 4000000 in
set_option maxRecDepth 20000 in
theorem c_X0_become (d : Nat) {h : Hp} {a b : Nat → Nat} {F E : FK} {P P2 : PL} {T T2 : ST} {V V2 : Nat → Int} (B : blkAt G h a (F, P, T, V)) (B2 : blkAt G h b (E, P2, T2, V2)) (ha : inj12 a) (hx : ∀ i j, i < 12 → j < 12 → b j ≠ a i) : CT G l mX0_become (d + 2) 0 0 [.ref (a 1), .ref (b 1)] h (fun o h' => o = none ∧ BK G h h' a (E, P, T, V)) := by
  refine CT.of (by decide) (Nat.le_of_ble_eq_true rfl) (List.forall_mem_cons.mpr ⟨rfl, List.forall_mem_cons.mpr ⟨rfl, fun _ h => absurd h List.not_mem_nil⟩⟩) ?_
  refine EV.lvs (lv' := [some (.ref (a 1)), some (.ref (b 1))]) rfl ?_
  have w0 := BK.start B
  have ga1 := BK.get (e := obj 0 [.int (zI ((F.1 : Int))), .ref (a 2), .ref (a 3), .ref (a 4), .ref (a 5)]) w0 1 (by decide) rfl
  have gb1 := BK.oth (e := obj 0 [.int (zI ((E.1 : Int))), .ref (b 2), .ref (b 3), .ref (b 4), .ref (b 5)]) w0 B2 hx 1 (by decide) rfl
  have ga2 := BK.get (e := arI G 6 (F.2.1)) w0 2 (by decide) rfl
  have gb2 := BK.oth (e := arI G 6 (E.2.1)) w0 B2 hx 2 (by decide) rfl
  have ga3 := BK.get (e := arI G 6 (F.2.2.1)) w0 3 (by decide) rfl
  have gb3 := BK.oth (e := arI G 6 (E.2.2.1)) w0 B2 hx 3 (by decide) rfl
  have ga4 := BK.get (e := arI G 48 (F.2.2.2)) w0 4 (by decide) rfl
  have gb4 := BK.oth (e := arI G 48 (E.2.2.2)) w0 B2 hx 4 (by decide) rfl
  refine EV.aload_n (i := 1) dX0_become_0 rfl rfl ?_
  refine EV.nonnull (t := 5) dX0_become_1 (by decide) ?_
  refine EV.aload_n (i := 0) dX0_become_5 rfl rfl ?_
  refine EV.aload_n (i := 1) dX0_become_6 rfl rfl ?_
  refine EV.getf fl_X0_24 dX0_become_7 gb1 rfl ?_
  refine EV.putf (fs' := [.int (zI ((E.1 : Int))), .ref (a 2), .ref (a 3), .ref (a 4), .ref (a 5)]) fp_X0_24 dX0_become_10 ga1 (Nat.le_of_ble_eq_true rfl) rfl rfl rfl ?_
  have w11 := BK.set (e := obj 0 [.int (zI ((E.1 : Int))), .ref (a 2), .ref (a 3), .ref (a 4), .ref (a 5)]) w0 ha ((E.1, F.2.1, F.2.2.1, F.2.2.2), (P.1, P.2.1, P.2.2), (T.1, T.2.1, T.2.2), V) 1 (by decide) rfl (lt12 (fun _ => rfl) (fun z => absurd rfl z) (fun _ => rfl) (fun _ => rfl) (fun _ => rfl) (fun _ => rfl) (fun _ => rfl) (fun _ => rfl) (fun _ => rfl) (fun _ => rfl) (fun _ => rfl) (fun _ => rfl))
  have ga1 := BK.get (e := obj 0 [.int (zI ((E.1 : Int))), .ref (a 2), .ref (a 3), .ref (a 4), .ref (a 5)]) w11 1 (by decide) rfl
  have gb1 := BK.oth (e := obj 0 [.int (zI ((E.1 : Int))), .ref (b 2), .ref (b 3), .ref (b 4), .ref (b 5)]) w11 B2 hx 1 (by decide) rfl
  have ga2 := BK.get (e := arI G 6 (F.2.1)) w11 2 (by decide) rfl
  have gb2 := BK.oth (e := arI G 6 (E.2.1)) w11 B2 hx 2 (by decide) rfl
  have ga3 := BK.get (e := arI G 6 (F.2.2.1)) w11 3 (by decide) rfl
  have gb3 := BK.oth (e := arI G 6 (E.2.2.1)) w11 B2 hx 3 (by decide) rfl
  have ga4 := BK.get (e := arI G 48 (F.2.2.2)) w11 4 (by decide) rfl
  have gb4 := BK.oth (e := arI G 48 (E.2.2.2)) w11 B2 hx 4 (by decide) rfl
  refine EV.aload_n (i := 1) dX0_become_13 rfl rfl ?_
  refine EV.getf fl_X0_9 dX0_become_14 gb1 rfl ?_
  refine EV.iconst dX0_become_17 ?_
  refine EV.aload_n (i := 0) dX0_become_18 rfl rfl ?_
  refine EV.getf fl_X0_9 dX0_become_19 ga1 rfl ?_
  refine EV.iconst dX0_become_22 ?_
  refine EV.bipush dX0_become_23 (by decide) ?_
  refine EV.copyA ml_X0_28 sm_COPY dX0_become_25 gb2 ga2 (N := 6) (by decide) (by decide) ?_
  have w26 := BK.set (e := arI G 6 (E.2.1)) w11 ha ((E.1, E.2.1, F.2.2.1, F.2.2.2), (P.1, P.2.1, P.2.2), (T.1, T.2.1, T.2.2), V) 2 (by decide) rfl (lt12 (fun _ => rfl) (fun _ => rfl) (fun z => absurd rfl z) (fun _ => rfl) (fun _ => rfl) (fun _ => rfl) (fun _ => rfl) (fun _ => rfl) (fun _ => rfl) (fun _ => rfl) (fun _ => rfl) (fun _ => rfl))
  have ga1 := BK.get (e := obj 0 [.int (zI ((E.1 : Int))), .ref (a 2), .ref (a 3), .ref (a 4), .ref (a 5)]) w26 1 (by decide) rfl
  have gb1 := BK.oth (e := obj 0 [.int (zI ((E.1 : Int))), .ref (b 2), .ref (b 3), .ref (b 4), .ref (b 5)]) w26 B2 hx 1 (by decide) rfl
  have ga2 := BK.get (e := arI G 6 (E.2.1)) w26 2 (by decide) rfl
  have gb2 := BK.oth (e := arI G 6 (E.2.1)) w26 B2 hx 2 (by decide) rfl
  have ga3 := BK.get (e := arI G 6 (F.2.2.1)) w26 3 (by decide) rfl
  have gb3 := BK.oth (e := arI G 6 (E.2.2.1)) w26 B2 hx 3 (by decide) rfl
  have ga4 := BK.get (e := arI G 48 (F.2.2.2)) w26 4 (by decide) rfl
  have gb4 := BK.oth (e := arI G 48 (E.2.2.2)) w26 B2 hx 4 (by decide) rfl
  refine EV.aload_n (i := 1) dX0_become_28 rfl rfl ?_
  refine EV.getf fl_X0_15 dX0_become_29 gb1 rfl ?_
  refine EV.iconst dX0_become_32 ?_
  refine EV.aload_n (i := 0) dX0_become_33 rfl rfl ?_
  refine EV.getf fl_X0_15 dX0_become_34 ga1 rfl ?_
  refine EV.iconst dX0_become_37 ?_
  refine EV.bipush dX0_become_38 (by decide) ?_
  refine EV.copyA ml_X0_28 sm_COPY dX0_become_40 gb3 ga3 (N := 6) (by decide) (by decide) ?_
  have w41 := BK.set (e := arI G 6 (E.2.2.1)) w26 ha ((E.1, E.2.1, E.2.2.1, F.2.2.2), (P.1, P.2.1, P.2.2), (T.1, T.2.1, T.2.2), V) 3 (by decide) rfl (lt12 (fun _ => rfl) (fun _ => rfl) (fun _ => rfl) (fun z => absurd rfl z) (fun _ => rfl) (fun _ => rfl) (fun _ => rfl) (fun _ => rfl) (fun _ => rfl) (fun _ => rfl) (fun _ => rfl) (fun _ => rfl))
  have ga1 := BK.get (e := obj 0 [.int (zI ((E.1 : Int))), .ref (a 2), .ref (a 3), .ref (a 4), .ref (a 5)]) w41 1 (by decide) rfl
  have gb1 := BK.oth (e := obj 0 [.int (zI ((E.1 : Int))), .ref (b 2), .ref (b 3), .ref (b 4), .ref (b 5)]) w41 B2 hx 1 (by decide) rfl
  have ga2 := BK.get (e := arI G 6 (E.2.1)) w41 2 (by decide) rfl
  have gb2 := BK.oth (e := arI G 6 (E.2.1)) w41 B2 hx 2 (by decide) rfl
  have ga3 := BK.get (e := arI G 6 (E.2.2.1)) w41 3 (by decide) rfl
  have gb3 := BK.oth (e := arI G 6 (E.2.2.1)) w41 B2 hx 3 (by decide) rfl
  have ga4 := BK.get (e := arI G 48 (F.2.2.2)) w41 4 (by decide) rfl
  have gb4 := BK.oth (e := arI G 48 (E.2.2.2)) w41 B2 hx 4 (by decide) rfl
  refine EV.aload_n (i := 1) dX0_become_43 rfl rfl ?_
  refine EV.getf fl_X0_18 dX0_become_44 gb1 rfl ?_
  refine EV.iconst dX0_become_47 ?_
  refine EV.aload_n (i := 0) dX0_become_48 rfl rfl ?_
  refine EV.getf fl_X0_18 dX0_become_49 ga1 rfl ?_
  refine EV.iconst dX0_become_52 ?_
  refine EV.bipush dX0_become_53 (by decide) ?_
  refine EV.copyA ml_X0_28 sm_COPY dX0_become_55 gb4 ga4 (N := 48) (by decide) (by decide) ?_
  have w56 := BK.set (e := arI G 48 (E.2.2.2)) w41 ha ((E.1, E.2.1, E.2.2.1, E.2.2.2), (P.1, P.2.1, P.2.2), (T.1, T.2.1, T.2.2), V) 4 (by decide) rfl (lt12 (fun _ => rfl) (fun _ => rfl) (fun _ => rfl) (fun _ => rfl) (fun z => absurd rfl z) (fun _ => rfl) (fun _ => rfl) (fun _ => rfl) (fun _ => rfl) (fun _ => rfl) (fun _ => rfl) (fun _ => rfl))
  have ga1 := BK.get (e := obj 0 [.int (zI ((E.1 : Int))), .ref (a 2), .ref (a 3), .ref (a 4), .ref (a 5)]) w56 1 (by decide) rfl
  have gb1 := BK.oth (e := obj 0 [.int (zI ((E.1 : Int))), .ref (b 2), .ref (b 3), .ref (b 4), .ref (b 5)]) w56 B2 hx 1 (by decide) rfl
  have ga2 := BK.get (e := arI G 6 (E.2.1)) w56 2 (by decide) rfl
  have gb2 := BK.oth (e := arI G 6 (E.2.1)) w56 B2 hx 2 (by decide) rfl
  have ga3 := BK.get (e := arI G 6 (E.2.2.1)) w56 3 (by decide) rfl
  have gb3 := BK.oth (e := arI G 6 (E.2.2.1)) w56 B2 hx 3 (by decide) rfl
  have ga4 := BK.get (e := arI G 48 (E.2.2.2)) w56 4 (by decide) rfl
  have gb4 := BK.oth (e := arI G 48 (E.2.2.2)) w56 B2 hx 4 (by decide) rfl
  refine EV.vret rfl dX0_become_58 ?_
  exact ⟨rfl, w56⟩
set_option maxHeartbeats 4000000 in
set_option maxRecDepth 20000 in
theorem c_X4_become (d : Nat) {h : Hp} {a b : Nat → Nat} {F E : FK} {P P2 : PL} {T T2 : ST} {V V2 : Nat → Int} (B : blkAt G h a (F, P, T, V)) (B2 : blkAt G h b (E, P2, T2, V2)) (ha : inj12 a) (hx : ∀ i j, i < 12 → j < 12 → b j ≠ a i) : CT G l mX4_become (d + 2) 0 0 [.ref (a 6), .ref (b 6)] h (fun o h' => o = none ∧ BK G h h' a (F, P2, T, V)) := by
  refine CT.of (by decide) (Nat.le_of_ble_eq_true rfl) (List.forall_mem_cons.mpr ⟨rfl, List.forall_mem_cons.mpr ⟨rfl, fun _ h => absurd h List.not_mem_nil⟩⟩) ?_
  refine EV.lvs (lv' := [some (.ref (a 6)), some (.ref (b 6))]) rfl ?_
  have w0 := BK.start B
  have ga6 := BK.get (e := obj 4 [.int (zI ((P.1 : Int))), .ref (a 7), .ref (a 8)]) w0 6 (by decide) rfl
  have gb6 := BK.oth (e := obj 4 [.int (zI ((P2.1 : Int))), .ref (b 7), .ref (b 8)]) w0 B2 hx 6 (by decide) rfl
  have ga7 := BK.get (e := arI G 6 (P.2.1)) w0 7 (by decide) rfl
  have gb7 := BK.oth (e := arI G 6 (P2.2.1)) w0 B2 hx 7 (by decide) rfl
  have ga8 := BK.get (e := arI G 6 (nf P.2.2)) w0 8 (by decide) rfl
  have gb8 := BK.oth (e := arI G 6 (nf P2.2.2)) w0 B2 hx 8 (by decide) rfl
  refine EV.aload_n (i := 1) dX4_become_0 rfl rfl ?_
  refine EV.nonnull (t := 5) dX4_become_1 (by decide) ?_
  refine EV.aload_n (i := 0) dX4_become_5 rfl rfl ?_
  refine EV.aload_n (i := 1) dX4_become_6 rfl rfl ?_
  refine EV.getf fl_X4_18 dX4_become_7 gb6 rfl ?_
  refine EV.putf (fs' := [.int (zI ((P2.1 : Int))), .ref (a 7), .ref (a 8)]) fp_X4_18 dX4_become_10 ga6 (Nat.le_of_ble_eq_true rfl) rfl rfl rfl ?_
  have w11 := BK.set (e := obj 4 [.int (zI ((P2.1 : Int))), .ref (a 7), .ref (a 8)]) w0 ha ((F.1, F.2.1, F.2.2.1, F.2.2.2), (P2.1, P.2.1, P.2.2), (T.1, T.2.1, T.2.2), V) 6 (by decide) rfl (lt12 (fun _ => rfl) (fun _ => rfl) (fun _ => rfl) (fun _ => rfl) (fun _ => rfl) (fun _ => rfl) (fun z => absurd rfl z) (fun _ => rfl) (fun _ => rfl) (fun _ => rfl) (fun _ => rfl) (fun _ => rfl))
  have ga6 := BK.get (e := obj 4 [.int (zI ((P2.1 : Int))), .ref (a 7), .ref (a 8)]) w11 6 (by decide) rfl
  have gb6 := BK.oth (e := obj 4 [.int (zI ((P2.1 : Int))), .ref (b 7), .ref (b 8)]) w11 B2 hx 6 (by decide) rfl
  have ga7 := BK.get (e := arI G 6 (P.2.1)) w11 7 (by decide) rfl
  have gb7 := BK.oth (e := arI G 6 (P2.2.1)) w11 B2 hx 7 (by decide) rfl
  have ga8 := BK.get (e := arI G 6 (nf P.2.2)) w11 8 (by decide) rfl
  have gb8 := BK.oth (e := arI G 6 (nf P2.2.2)) w11 B2 hx 8 (by decide) rfl
  refine EV.aload_n (i := 1) dX4_become_13 rfl rfl ?_
  refine EV.getf fl_X4_9 dX4_become_14 gb6 rfl ?_
  refine EV.iconst dX4_become_17 ?_
  refine EV.aload_n (i := 0) dX4_become_18 rfl rfl ?_
  refine EV.getf fl_X4_9 dX4_become_19 ga6 rfl ?_
  refine EV.iconst dX4_become_22 ?_
  refine EV.bipush dX4_become_23 (by decide) ?_
  refine EV.copyA ml_X4_22 sm_COPY dX4_become_25 gb7 ga7 (N := 6) (by decide) (by decide) ?_
  have w26 := BK.set (e := arI G 6 (P2.2.1)) w11 ha ((F.1, F.2.1, F.2.2.1, F.2.2.2), (P2.1, P2.2.1, P.2.2), (T.1, T.2.1, T.2.2), V) 7 (by decide) rfl (lt12 (fun _ => rfl) (fun _ => rfl) (fun _ => rfl) (fun _ => rfl) (fun _ => rfl) (fun _ => rfl) (fun _ => rfl) (fun z => absurd rfl z) (fun _ => rfl) (fun _ => rfl) (fun _ => rfl) (fun _ => rfl))
  have ga6 := BK.get (e := obj 4 [.int (zI ((P2.1 : Int))), .ref (a 7), .ref (a 8)]) w26 6 (by decide) rfl
  have gb6 := BK.oth (e := obj 4 [.int (zI ((P2.1 : Int))), .ref (b 7), .ref (b 8)]) w26 B2 hx 6 (by decide) rfl
  have ga7 := BK.get (e := arI G 6 (P2.2.1)) w26 7 (by decide) rfl
  have gb7 := BK.oth (e := arI G 6 (P2.2.1)) w26 B2 hx 7 (by decide) rfl
  have ga8 := BK.get (e := arI G 6 (nf P.2.2)) w26 8 (by decide) rfl
  have gb8 := BK.oth (e := arI G 6 (nf P2.2.2)) w26 B2 hx 8 (by decide) rfl
  refine EV.aload_n (i := 1) dX4_become_28 rfl rfl ?_
  refine EV.getf fl_X4_15 dX4_become_29 gb6 rfl ?_
  refine EV.iconst dX4_become_32 ?_
  refine EV.aload_n (i := 0) dX4_become_33 rfl rfl ?_
  refine EV.getf fl_X4_15 dX4_become_34 ga6 rfl ?_
  refine EV.iconst dX4_become_37 ?_
  refine EV.bipush dX4_become_38 (by decide) ?_
  refine EV.copyA ml_X4_22 sm_COPY dX4_become_40 gb8 ga8 (N := 6) (by decide) (by decide) ?_
  have w41 := BK.set (e := arI G 6 (nf P2.2.2)) w26 ha ((F.1, F.2.1, F.2.2.1, F.2.2.2), (P2.1, P2.2.1, P2.2.2), (T.1, T.2.1, T.2.2), V) 8 (by decide) rfl (lt12 (fun _ => rfl) (fun _ => rfl) (fun _ => rfl) (fun _ => rfl) (fun _ => rfl) (fun _ => rfl) (fun _ => rfl) (fun _ => rfl) (fun z => absurd rfl z) (fun _ => rfl) (fun _ => rfl) (fun _ => rfl))
  have ga6 := BK.get (e := obj 4 [.int (zI ((P2.1 : Int))), .ref (a 7), .ref (a 8)]) w41 6 (by decide) rfl
  have gb6 := BK.oth (e := obj 4 [.int (zI ((P2.1 : Int))), .ref (b 7), .ref (b 8)]) w41 B2 hx 6 (by decide) rfl
  have ga7 := BK.get (e := arI G 6 (P2.2.1)) w41 7 (by decide) rfl
  have gb7 := BK.oth (e := arI G 6 (P2.2.1)) w41 B2 hx 7 (by decide) rfl
  have ga8 := BK.get (e := arI G 6 (nf P2.2.2)) w41 8 (by decide) rfl
  have gb8 := BK.oth (e := arI G 6 (nf P2.2.2)) w41 B2 hx 8 (by decide) rfl
  refine EV.vret rfl dX4_become_43 ?_
  exact ⟨rfl, w41⟩
set_option maxHeartbeats 4000000 in
set_option maxRecDepth 20000 in
theorem c_X5_become (d : Nat) {h : Hp} {a b : Nat → Nat} {F E : FK} {P P2 : PL} {T T2 : ST} {V V2 : Nat → Int} (B : blkAt G h a (F, P, T, V)) (B2 : blkAt G h b (E, P2, T2, V2)) (ha : inj12 a) (hx : ∀ i j, i < 12 → j < 12 → b j ≠ a i) : CT G l mX5_become (d + 2) 0 0 [.ref (a 9), .ref (b 9)] h (fun o h' => o = none ∧ BK G h h' a (F, P, T2, V)) := by
  refine CT.of (by decide) (Nat.le_of_ble_eq_true rfl) (List.forall_mem_cons.mpr ⟨rfl, List.forall_mem_cons.mpr ⟨rfl, fun _ h => absurd h List.not_mem_nil⟩⟩) ?_
  refine EV.lvs (lv' := [some (.ref (a 9)), some (.ref (b 9))]) rfl ?_
  have w0 := BK.start B
  have ga9 := BK.get (e := obj 5 [.int (zI ((T.1 : Int))), .ref (a 10), .ref (a 11)]) w0 9 (by decide) rfl
  have gb9 := BK.oth (e := obj 5 [.int (zI ((T2.1 : Int))), .ref (b 10), .ref (b 11)]) w0 B2 hx 9 (by decide) rfl
  have ga10 := BK.get (e := arI G 6 (T.2.1)) w0 10 (by decide) rfl
  have gb10 := BK.oth (e := arI G 6 (T2.2.1)) w0 B2 hx 10 (by decide) rfl
  have ga11 := BK.get (e := arI G 6 (T.2.2)) w0 11 (by decide) rfl
  have gb11 := BK.oth (e := arI G 6 (T2.2.2)) w0 B2 hx 11 (by decide) rfl
  refine EV.aload_n (i := 1) dX5_become_0 rfl rfl ?_
  refine EV.nonnull (t := 5) dX5_become_1 (by decide) ?_
  refine EV.aload_n (i := 0) dX5_become_5 rfl rfl ?_
  refine EV.aload_n (i := 1) dX5_become_6 rfl rfl ?_
  refine EV.getf fl_X5_18 dX5_become_7 gb9 rfl ?_
  refine EV.putf (fs' := [.int (zI ((T2.1 : Int))), .ref (a 10), .ref (a 11)]) fp_X5_18 dX5_become_10 ga9 (Nat.le_of_ble_eq_true rfl) rfl rfl rfl ?_
  have w11 := BK.set (e := obj 5 [.int (zI ((T2.1 : Int))), .ref (a 10), .ref (a 11)]) w0 ha ((F.1, F.2.1, F.2.2.1, F.2.2.2), (P.1, P.2.1, P.2.2), (T2.1, T.2.1, T.2.2), V) 9 (by decide) rfl (lt12 (fun _ => rfl) (fun _ => rfl) (fun _ => rfl) (fun _ => rfl) (fun _ => rfl) (fun _ => rfl) (fun _ => rfl) (fun _ => rfl) (fun _ => rfl) (fun z => absurd rfl z) (fun _ => rfl) (fun _ => rfl))
  have ga9 := BK.get (e := obj 5 [.int (zI ((T2.1 : Int))), .ref (a 10), .ref (a 11)]) w11 9 (by decide) rfl
  have gb9 := BK.oth (e := obj 5 [.int (zI ((T2.1 : Int))), .ref (b 10), .ref (b 11)]) w11 B2 hx 9 (by decide) rfl
  have ga10 := BK.get (e := arI G 6 (T.2.1)) w11 10 (by decide) rfl
  have gb10 := BK.oth (e := arI G 6 (T2.2.1)) w11 B2 hx 10 (by decide) rfl
  have ga11 := BK.get (e := arI G 6 (T.2.2)) w11 11 (by decide) rfl
  have gb11 := BK.oth (e := arI G 6 (T2.2.2)) w11 B2 hx 11 (by decide) rfl
  refine EV.aload_n (i := 1) dX5_become_13 rfl rfl ?_
  refine EV.getf fl_X5_9 dX5_become_14 gb9 rfl ?_
  refine EV.iconst dX5_become_17 ?_
  refine EV.aload_n (i := 0) dX5_become_18 rfl rfl ?_
  refine EV.getf fl_X5_9 dX5_become_19 ga9 rfl ?_
  refine EV.iconst dX5_become_22 ?_
  refine EV.bipush dX5_become_23 (by decide) ?_
  refine EV.copyA ml_X5_22 sm_COPY dX5_become_25 gb10 ga10 (N := 6) (by decide) (by decide) ?_
  have w26 := BK.set (e := arI G 6 (T2.2.1)) w11 ha ((F.1, F.2.1, F.2.2.1, F.2.2.2), (P.1, P.2.1, P.2.2), (T2.1, T2.2.1, T.2.2), V) 10 (by decide) rfl (lt12 (fun _ => rfl) (fun _ => rfl) (fun _ => rfl) (fun _ => rfl) (fun _ => rfl) (fun _ => rfl) (fun _ => rfl) (fun _ => rfl) (fun _ => rfl) (fun _ => rfl) (fun z => absurd rfl z) (fun _ => rfl))
  have ga9 := BK.get (e := obj 5 [.int (zI ((T2.1 : Int))), .ref (a 10), .ref (a 11)]) w26 9 (by decide) rfl
  have gb9 := BK.oth (e := obj 5 [.int (zI ((T2.1 : Int))), .ref (b 10), .ref (b 11)]) w26 B2 hx 9 (by decide) rfl
  have ga10 := BK.get (e := arI G 6 (T2.2.1)) w26 10 (by decide) rfl
  have gb10 := BK.oth (e := arI G 6 (T2.2.1)) w26 B2 hx 10 (by decide) rfl
  have ga11 := BK.get (e := arI G 6 (T.2.2)) w26 11 (by decide) rfl
  have gb11 := BK.oth (e := arI G 6 (T2.2.2)) w26 B2 hx 11 (by decide) rfl
  refine EV.aload_n (i := 1) dX5_become_28 rfl rfl ?_
  refine EV.getf fl_X5_15 dX5_become_29 gb9 rfl ?_
  refine EV.iconst dX5_become_32 ?_
  refine EV.aload_n (i := 0) dX5_become_33 rfl rfl ?_
  refine EV.getf fl_X5_15 dX5_become_34 ga9 rfl ?_
  refine EV.iconst dX5_become_37 ?_
  refine EV.bipush dX5_become_38 (by decide) ?_
  refine EV.copyA ml_X5_22 sm_COPY dX5_become_40 gb11 ga11 (N := 6) (by decide) (by decide) ?_
  have w41 := BK.set (e := arI G 6 (T2.2.2)) w26 ha ((F.1, F.2.1, F.2.2.1, F.2.2.2), (P.1, P.2.1, P.2.2), (T2.1, T2.2.1, T2.2.2), V) 11 (by decide) rfl (lt12 (fun _ => rfl) (fun _ => rfl) (fun _ => rfl) (fun _ => rfl) (fun _ => rfl) (fun _ => rfl) (fun _ => rfl) (fun _ => rfl) (fun _ => rfl) (fun _ => rfl) (fun _ => rfl) (fun z => absurd rfl z))
  have ga9 := BK.get (e := obj 5 [.int (zI ((T2.1 : Int))), .ref (a 10), .ref (a 11)]) w41 9 (by decide) rfl
  have gb9 := BK.oth (e := obj 5 [.int (zI ((T2.1 : Int))), .ref (b 10), .ref (b 11)]) w41 B2 hx 9 (by decide) rfl
  have ga10 := BK.get (e := arI G 6 (T2.2.1)) w41 10 (by decide) rfl
  have gb10 := BK.oth (e := arI G 6 (T2.2.1)) w41 B2 hx 10 (by decide) rfl
  have ga11 := BK.get (e := arI G 6 (T2.2.2)) w41 11 (by decide) rfl
  have gb11 := BK.oth (e := arI G 6 (T2.2.2)) w41 B2 hx 11 (by decide) rfl
  refine EV.vret rfl dX5_become_43 ?_
  exact ⟨rfl, w41⟩
set_option maxHeartbeats 4000000 in
set_option maxRecDepth 20000 in
theorem c_X1_become (d : Nat) {h : Hp} {a b : Nat → Nat} {F E : FK} {P P2 : PL} {T T2 : ST} {V V2 : Nat → Int} (B : blkAt G h a (F, P, T, V)) (B2 : blkAt G h b (E, P2, T2, V2)) (ha : inj12 a) (hx : ∀ i j, i < 12 → j < 12 → b j ≠ a i) : CT G l mX1_become (d + 3) 0 0 [.ref (a 0), .ref (b 0)] h (fun o h' => o = none ∧ BK G h h' a (E, P2, T2, V)) := by
  refine CT.of (by decide) (Nat.le_of_ble_eq_true rfl) (List.forall_mem_cons.mpr ⟨rfl, List.forall_mem_cons.mpr ⟨rfl, fun _ h => absurd h List.not_mem_nil⟩⟩) ?_
  refine EV.lvs (lv' := [some (.ref (a 0)), some (.ref (b 0))]) rfl ?_
  have w0 := BK.start B
  have ga0 := BK.get (e := obj 1 [.ref (a 1), .ref (a 6), .ref (a 9)]) w0 0 (by decide) rfl
  have gb0 := BK.oth (e := obj 1 [.ref (b 1), .ref (b 6), .ref (b 9)]) w0 B2 hx 0 (by decide) rfl
  have ga1 := BK.get (e := obj 0 [.int (zI ((F.1 : Int))), .ref (a 2), .ref (a 3), .ref (a 4), .ref (a 5)]) w0 1 (by decide) rfl
  have gb1 := BK.oth (e := obj 0 [.int (zI ((E.1 : Int))), .ref (b 2), .ref (b 3), .ref (b 4), .ref (b 5)]) w0 B2 hx 1 (by decide) rfl
  have ga6 := BK.get (e := obj 4 [.int (zI ((P.1 : Int))), .ref (a 7), .ref (a 8)]) w0 6 (by decide) rfl
  have gb6 := BK.oth (e := obj 4 [.int (zI ((P2.1 : Int))), .ref (b 7), .ref (b 8)]) w0 B2 hx 6 (by decide) rfl
  have ga9 := BK.get (e := obj 5 [.int (zI ((T.1 : Int))), .ref (a 10), .ref (a 11)]) w0 9 (by decide) rfl
  have gb9 := BK.oth (e := obj 5 [.int (zI ((T2.1 : Int))), .ref (b 10), .ref (b 11)]) w0 B2 hx 9 (by decide) rfl
  refine EV.aload_n (i := 1) dX1_become_0 rfl rfl ?_
  refine EV.nonnull (t := 5) dX1_become_1 (by decide) ?_
  refine EV.aload_n (i := 0) dX1_become_5 rfl rfl ?_
  refine EV.getf fl_X1_10 dX1_become_6 ga0 rfl ?_
  refine EV.aload_n (i := 1) dX1_become_9 rfl rfl ?_
  refine EV.getf fl_X1_10 dX1_become_10 gb0 rfl ?_
  refine EV.callV (M' := mX0_become) (as := [.ref (b 1)]) (rest := []) ml_X1_30 im_X0_become se_X0_become rfl co_X0_become dX1_become_13 ga1 (c_X0_become (d + 0) B B2 ha hx) rfl rfl (Nat.le_of_ble_eq_true rfl) (Nat.le_of_ble_eq_true rfl) (Nat.le_of_ble_eq_true rfl) (fun v13 h13 q13 => ?_)
  obtain ⟨rfl, x1⟩ := q13
  refine EV.sts (st' := []) rfl ?_
  have w1 := BK.trans w0 x1
  have ga0 := BK.get (e := obj 1 [.ref (a 1), .ref (a 6), .ref (a 9)]) w1 0 (by decide) rfl
  have gb0 := BK.oth (e := obj 1 [.ref (b 1), .ref (b 6), .ref (b 9)]) w1 B2 hx 0 (by decide) rfl
  have ga1 := BK.get (e := obj 0 [.int (zI ((E.1 : Int))), .ref (a 2), .ref (a 3), .ref (a 4), .ref (a 5)]) w1 1 (by decide) rfl
  have gb1 := BK.oth (e := obj 0 [.int (zI ((E.1 : Int))), .ref (b 2), .ref (b 3), .ref (b 4), .ref (b 5)]) w1 B2 hx 1 (by decide) rfl
  have ga6 := BK.get (e := obj 4 [.int (zI ((P.1 : Int))), .ref (a 7), .ref (a 8)]) w1 6 (by decide) rfl
  have gb6 := BK.oth (e := obj 4 [.int (zI ((P2.1 : Int))), .ref (b 7), .ref (b 8)]) w1 B2 hx 6 (by decide) rfl
  have ga9 := BK.get (e := obj 5 [.int (zI ((T.1 : Int))), .ref (a 10), .ref (a 11)]) w1 9 (by decide) rfl
  have gb9 := BK.oth (e := obj 5 [.int (zI ((T2.1 : Int))), .ref (b 10), .ref (b 11)]) w1 B2 hx 9 (by decide) rfl
  refine EV.aload_n (i := 0) dX1_become_16 rfl rfl ?_
  refine EV.getf fl_X1_19 dX1_become_17 ga0 rfl ?_
  refine EV.aload_n (i := 1) dX1_become_20 rfl rfl ?_
  refine EV.getf fl_X1_19 dX1_become_21 gb0 rfl ?_
  refine EV.callV (M' := mX4_become) (as := [.ref (b 6)]) (rest := []) ml_X1_34 im_X4_become se_X4_become rfl co_X4_become dX1_become_24 ga6 (c_X4_become (d + 0) w1.1 (w1.oblk B2 hx) ha hx) rfl rfl (Nat.le_of_ble_eq_true rfl) (Nat.le_of_ble_eq_true rfl) (Nat.le_of_ble_eq_true rfl) (fun v24 h24 q24 => ?_)
  obtain ⟨rfl, x2⟩ := q24
  refine EV.sts (st' := []) rfl ?_
  have w2 := BK.trans w1 x2
  have ga0 := BK.get (e := obj 1 [.ref (a 1), .ref (a 6), .ref (a 9)]) w2 0 (by decide) rfl
  have gb0 := BK.oth (e := obj 1 [.ref (b 1), .ref (b 6), .ref (b 9)]) w2 B2 hx 0 (by decide) rfl
  have ga1 := BK.get (e := obj 0 [.int (zI ((E.1 : Int))), .ref (a 2), .ref (a 3), .ref (a 4), .ref (a 5)]) w2 1 (by decide) rfl
  have gb1 := BK.oth (e := obj 0 [.int (zI ((E.1 : Int))), .ref (b 2), .ref (b 3), .ref (b 4), .ref (b 5)]) w2 B2 hx 1 (by decide) rfl
  have ga6 := BK.get (e := obj 4 [.int (zI ((P2.1 : Int))), .ref (a 7), .ref (a 8)]) w2 6 (by decide) rfl
  have gb6 := BK.oth (e := obj 4 [.int (zI ((P2.1 : Int))), .ref (b 7), .ref (b 8)]) w2 B2 hx 6 (by decide) rfl
  have ga9 := BK.get (e := obj 5 [.int (zI ((T.1 : Int))), .ref (a 10), .ref (a 11)]) w2 9 (by decide) rfl
  have gb9 := BK.oth (e := obj 5 [.int (zI ((T2.1 : Int))), .ref (b 10), .ref (b 11)]) w2 B2 hx 9 (by decide) rfl
  refine EV.aload_n (i := 0) dX1_become_27 rfl rfl ?_
  refine EV.getf fl_X1_26 dX1_become_28 ga0 rfl ?_
  refine EV.aload_n (i := 1) dX1_become_31 rfl rfl ?_
  refine EV.getf fl_X1_26 dX1_become_32 gb0 rfl ?_
  refine EV.callV (M' := mX5_become) (as := [.ref (b 9)]) (rest := []) ml_X1_37 im_X5_become se_X5_become rfl co_X5_become dX1_become_35 ga9 (c_X5_become (d + 0) w2.1 (w2.oblk B2 hx) ha hx) rfl rfl (Nat.le_of_ble_eq_true rfl) (Nat.le_of_ble_eq_true rfl) (Nat.le_of_ble_eq_true rfl) (fun v35 h35 q35 => ?_)
  obtain ⟨rfl, x3⟩ := q35
  refine EV.sts (st' := []) rfl ?_
  have w3 := BK.trans w2 x3
  refine EV.vret rfl dX1_become_38 ?_
  exact ⟨rfl, w3⟩
end
