/-! ===== rows of EV: calls ===== -/
theorem TBw_good (M : MD) (hc : Cond.code M.1 M.2.1 M.2.2.1 M.2.2.2 ∈ TB) : GoodIn TB (TBw M) := fun w hw => by
  rcases List.mem_cons.mp hw with rfl | hw
  · exact ⟨hc, TB_good hc⟩
  · exact ⟨hw, TB_good hw⟩
/-- what a callee must have: its code, its class, few locals; n: its arguments behind the receiver -/
def CO (M : MD) (n : Nat) : Prop := Cond.code M.1 M.2.1 M.2.2.1 M.2.2.2 ∈ TB ∧ Cond.initialized M.1.cls ∈ TB ∧ (M.1.cls ≠ "java/lang/invoke/MethodHandle" ∧ M.1.cls ≠ "java/lang/invoke/VarHandle" ∧ (parseMethodDescriptor M.1.desc).map (fun d => d.parameters.length) = some n) ∧ M.2.2.1 ≤ 40
section EVC
variable {G : GG} {l : Launch} {M M' : MD} {d : Nat} {Q Q' : Option Value → Hp → Prop} {pc idx n mc' ms' : Nat} {lv : List (Option Value)} {st rest as : List Value} {h : Hp} {kc ks : Nat} {b : Nat}
theorem EV.ret_of {p : Program} {e : Env} {R : Room} {s : State} {m : MethodId} {args : Array Value} {below : List Frame} {meth : Method} {c : Code} {A : Nat → Prop} {H : Heap} {locs : List Loc} {cells slots : Nat} {ls : Array Slot} {Z : State → Prop} {av : Array Value} {st0 : List Value}
    (hr : va_Run p l e R s m args below meth c H locs cells slots mc' ms' (F0 m pc ls st0) rest (EQ G Q' (hA h H.size) av) (hA h H.size)) (hS : va_S A s.heap H locs) (hAs : ∀ q : Nat, s.heap.size ≤ q → A q) (hD : ∀ q : Nat, (h q).isSome = true → A q)
    (kk : ∀ (v : Option Value) (h' : Hp) (H1 : Heap) (locs1 : List Loc), Q' v h' → Rl G h' H1 → (∀ q : Nat, (h' q).isSome = true → A q) → va_S A s.heap H1 locs1 → W p l e R s m args below meth c H1 locs1 (cells + mc') (slots + ms') Z (F0 m (pc + 3) ls (v.toList ++ rest))) : W p l e R s m args below meth c H locs cells slots Z (F0 m pc ls st0) := by
  have hsub : ∀ q : Nat, hA h H.size q → A q := fun q hq => hq.elim (hD q) (fun z => hAs q (Nat.le_trans hS.1 z))
  intro T hT X
  obtain ⟨v, st₀, t, T', L, h0, X', hL, e1, e2, ⟨⟨v', h', hv, hq, hRl, hdm⟩, hz, hk⟩, st'⟩ := hr T hT X
  cases hv
  rw [h0] at hz hk
  obtain ⟨t2, a1, b1⟩ := kk v h' T'.heap (locs ++ L) hq (by rw [e1]; exact hRl) (fun q x => hsub q (hdm q x))
    ⟨Nat.le_trans hS.1 (by rw [e1]; exact hz), fun q g1 g2 => by rw [e1, hk q (Nat.lt_of_lt_of_le g1 hS.1) (fun z => g2 (hsub q z))]; exact hS.2.1 q g1 g2, fun q hq2 => by
      rcases List.mem_append.mp hq2 with x | x
      · exact hS.2.2 q x
      · exact hsub _ (hL q x)⟩ T' rfl X'
  exact ⟨t2, st' t2 a1, b1⟩
theorem EV.pre {s : State} {H : Heap} (hC : Cx G s) (hR : Rl G h H) : PreS s H (va_Pc as (fun U => U.heap.size = H.size ∧ Cx G U ∧ Rl G h U.heap)) as :=
  ⟨fun a U g mk hp => ⟨hp.1, hp.2.1, hp.2.2.1.call, hp.2.2.2⟩, fun U hU hW => ⟨rfl, by rw [hU], hC.warm hW, by rw [hU]; exact hR⟩⟩
theorem EV.callS (w1 : Cond.methodLink M.1.cls idx M'.1 ∈ TB) (w2 : Cond.static M'.1 ∈ TB) (w3 : CO M' n) (dg : decode M.2.1 pc = .ok (.invokestatic idx, 3)) (ct : CT G l M' d mc' ms' as h Q') (hn : as.length = n) (hst : st = as.reverse ++ rest) (hW : (rest.map fun v => v.category).sum ≤ 8) (hc1 : mc' ≤ kc) (hc2 : ms' ≤ ks)
    (kk : ∀ (v : Option Value) (h' : Hp), Q' v h' → EV G l M (d + 1) Q (pc + 3) lv (v.toList ++ rest) h' (kc - mc') (ks - ms')) : EV G l M (d + 1) Q pc lv st h kc ks := by
  intro p e s m args below meth c A mc ms H locs cells slots ls hC hS hR hD hl h1 h2
  have hts := hC.2.2.2.2.2.2.1
  have hm := w3.2.2.2
  subst hst
  refine EV.ret_of (st0 := as.reverse ++ rest) (va_runS (Ts := TB) (As := as) (rest := rest) (g := F0 m pc ls (as.reverse ++ rest)) ⟨hC.1, hC.2.1, hC.2.2.1, hC.2.2.2.2.1, hts⟩ (ct H.size) ⟨callB_of (ws' := TB) n hts (TBw_good M' w3.1) rfl rfl rfl (hts _ w3.2.1) (hts _ w1) w3.2.2.1 ⟨Nat.le_refl _, by show 8 + (M'.2.2.1 + 11) + 64 * d ≤ 64 * (d + 1); omega⟩, hts _ w2⟩ (EV.pre hC.2.2.2.2.2.2.2.2.1 hR) rfl hn hl.1 rfl (by show 2 * 0 + _ ≤ 8; omega) dg ⟨by show cells + mc' ≤ mc; omega, by show slots + ms' ≤ ms; omega⟩) hS hC.2.2.2.2.2.2.2.2.2 hD (fun v h' H1 locs1 hq hR1 hD1 hS1 => ?_)
  exact kk v h' hq _ _ _ _ _ _ _ _ _ _ _ _ _ _ _ _ hC hS1 hR1 hD1 hl (by omega) (by omega)
theorem EV.callSN {host : String} (w1 : (M.1.cls, idx, M'.1, host) ∈ NBt) (w2 : Cond.static M'.1 ∈ TB) (w3 : CO M' n) (dg : decode M.2.1 pc = .ok (.invokestatic idx, 3)) (ct : CT G l M' d mc' ms' as h Q') (hn : as.length = n) (hst : st = as.reverse ++ rest) (hW : (rest.map fun v => v.category).sum ≤ 8) (hc1 : mc' ≤ kc) (hc2 : ms' ≤ ks)
    (kk : ∀ (v : Option Value) (h' : Hp), Q' v h' → EV G l M (d + 1) Q (pc + 3) lv (v.toList ++ rest) h' (kc - mc') (ks - ms')) : EV G l M (d + 1) Q pc lv st h kc ks := by
  intro p e s m args below meth c A mc ms H locs cells slots ls hC hS hR hD hl h1 h2
  have hts := hC.2.2.2.2.2.2.1
  have hm := w3.2.2.2
  subst hst
  refine EV.ret_of (st0 := as.reverse ++ rest) (va_runSN (Ts := TB) (As := as) (rest := rest) (g := F0 m pc ls (as.reverse ++ rest)) ⟨hC.1, hC.2.1, hC.2.2.1, hC.2.2.2.2.1, hts⟩ (ct H.size) ⟨va_cnB (Ts := TB) (ws' := TB) n hts (TBw_good M' w3.1) rfl rfl rfl (hC.2.2.2.2.2.2.2.2.1.2.1 _ w1) (hts _ w3.2.1) w3.2.2.1 ⟨Nat.le_refl _, by show 8 + (M'.2.2.1 + 11) + 64 * d ≤ 64 * (d + 1); omega⟩, hts _ w2, trivial⟩ (EV.pre hC.2.2.2.2.2.2.2.2.1 hR) rfl hn hl.1 rfl (by show 2 * 0 + _ ≤ 8; omega) dg ⟨by show cells + mc' ≤ mc; omega, by show slots + ms' ≤ ms; omega⟩) hS hC.2.2.2.2.2.2.2.2.2 hD (fun v h' H1 locs1 hq hR1 hD1 hS1 => ?_)
  exact kk v h' hq _ _ _ _ _ _ _ _ _ _ _ _ _ _ _ _ hC hS1 hR1 hD1 hl (by omega) (by omega)
theorem EV.preV {s : State} {H : Heap} {ci : Nat} {fs : List Value} {r : vw_C} (hC : Cx G s) (hR : Rl G h H) (hb : h b = some (obj ci fs)) (hc : vwCl[ci]? = some r) : PreV s H r.1 b (va_Pc (.ref b :: as) (fun U => U.heap.size = H.size ∧ Cx G U ∧ Rl G h U.heap)) as := by
  refine ⟨fun a U g mk hp => ⟨hp.1, hp.2.1, hp.2.2.1.call, hp.2.2.2⟩, ?_, fun U hU hW => ⟨rfl, by rw [hU], hC.warm hW, by rw [hU]; exact hR⟩⟩
  obtain ⟨ws, hP, hDw, hcm⟩ := hR
  obtain ⟨q0, he⟩ := hcm b _ hb
  exact va_recv hC.1 hP hc he
theorem EV.callV {ci : Nat} {fs : List Value} {r : vw_C} (w1 : Cond.methodLink M.1.cls idx M'.1 ∈ TB) (w2 : Cond.instanceMethod M'.1 ∈ TB) (w4 : Cond.selects r.1 M'.1 M'.1 ∈ TB) (hc : vwCl[ci]? = some r) (w3 : CO M' n) (dg : decode M.2.1 pc = .ok (.invokevirtual idx, 3)) (hb : h b = some (obj ci fs)) (ct : CT G l M' d mc' ms' (.ref b :: as) h Q') (hn : as.length = n) (hst : st = as.reverse ++ .ref b :: rest) (hW : (rest.map fun v => v.category).sum ≤ 8) (hc1 : mc' ≤ kc) (hc2 : ms' ≤ ks)
    (kk : ∀ (v : Option Value) (h' : Hp), Q' v h' → EV G l M (d + 1) Q (pc + 3) lv (v.toList ++ rest) h' (kc - mc') (ks - ms')) : EV G l M (d + 1) Q pc lv st h kc ks := by
  intro p e s m args below meth c A mc ms H locs cells slots ls hC hS hR hD hl h1 h2
  have hts := hC.2.2.2.2.2.2.1
  have hm := w3.2.2.2
  subst hst
  refine EV.ret_of (st0 := as.reverse ++ .ref b :: rest) (va_runV (Ts := TB) (As := as) (C := r.1) (b := b) (rest := rest) (g := F0 m pc ls (as.reverse ++ .ref b :: rest)) ⟨hC.1, hC.2.1, hC.2.2.1, hC.2.2.2.2.1, hts⟩ (ct H.size) ⟨callB_of (ws' := TB) n hts (TBw_good M' w3.1) rfl rfl rfl (hts _ w3.2.1) (hts _ w1) w3.2.2.1 ⟨Nat.le_refl _, by show 8 + (M'.2.2.1 + 11) + 64 * d ≤ 64 * (d + 1); omega⟩, hts _ w2, hts _ w4⟩ (EV.preV hC.2.2.2.2.2.2.2.2.1 hR hb hc) rfl hn hl.1 rfl (by show 2 * 0 + _ ≤ 8; omega) dg ⟨by show cells + mc' ≤ mc; omega, by show slots + ms' ≤ ms; omega⟩) hS hC.2.2.2.2.2.2.2.2.2 hD (fun v h' H1 locs1 hq hR1 hD1 hS1 => ?_)
  exact kk v h' hq _ _ _ _ _ _ _ _ _ _ _ _ _ _ _ _ hC hS1 hR1 hD1 hl (by omega) (by omega)
theorem EV.callIN {host : String} (hret : M'.2.2.2 = none) (hnm : M'.1.name = "<init>") (w1 : (M.1.cls, idx, M'.1, host) ∈ NBt) (w2 : Cond.instanceMethod M'.1 ∈ TB) (w3 : CO M' n) (dg : decode M.2.1 pc = .ok (.invokespecial idx, 3)) (ct : CT G l M' d mc' ms' (.ref b :: as) h Q') (hn : as.length = n) (hst : st = as.reverse ++ .ref b :: rest) (hW : (rest.map fun v => v.category).sum ≤ 8) (hc1 : mc' ≤ kc) (hc2 : ms' ≤ ks)
    (kk : ∀ (v : Option Value) (h' : Hp), Q' v h' → EV G l M (d + 1) Q (pc + 3) lv (v.toList ++ rest) h' (kc - mc') (ks - ms')) : EV G l M (d + 1) Q pc lv st h kc ks := by
  intro p e s m args below meth c A mc ms H locs cells slots ls hC hS hR hD hl h1 h2
  have hts := hC.2.2.2.2.2.2.1
  subst hst
  obtain ⟨y, cc, nL, ret⟩ := M'
  obtain rfl : ret = none := hret
  have hm : nL ≤ 40 := w3.2.2.2
  refine EV.ret_of (st0 := as.reverse ++ .ref b :: rest) (va_runIN (Ts := TB) (As := as) (b := b) (rest := rest) (g := F0 m pc ls (as.reverse ++ .ref b :: rest)) ⟨hC.1, hC.2.1, hC.2.2.1, hC.2.2.2.2.1, hts⟩ (ct H.size) ⟨va_cnB (Ts := TB) (ws' := TB) n hts (TBw_good _ w3.1) rfl rfl rfl (hC.2.2.2.2.2.2.2.2.1.2.1 _ w1) (hts _ w3.2.1) w3.2.2.1 ⟨Nat.le_refl _, by show 8 + (nL + 11) + 64 * d ≤ 64 * (d + 1); omega⟩, hnm, hts _ w2⟩ (EV.pre (as := .ref b :: as) hC.2.2.2.2.2.2.2.2.1 hR) rfl hn hl.1 rfl (by show 2 * 0 + _ ≤ 8; omega) dg ⟨by show cells + mc' ≤ mc; omega, by show slots + ms' ≤ ms; omega⟩) hS hC.2.2.2.2.2.2.2.2.2 hD (fun v h' H1 locs1 hq hR1 hD1 hS1 => ?_)
  exact kk v h' hq _ _ _ _ _ _ _ _ _ _ _ _ _ _ _ _ hC hS1 hR1 hD1 hl (by omega) (by omega)
/-! reads: the answer is a value, the cells stay -/
theorem EV.callSr {v : Value} (w1 : Cond.methodLink M.1.cls idx M'.1 ∈ TB) (w2 : Cond.static M'.1 ∈ TB) (w3 : CO M' n) (dg : decode M.2.1 pc = .ok (.invokestatic idx, 3)) (ct : CT G l M' d 0 0 as h (fun o h' => o = some v ∧ h' = h)) (hn : as.length = n) (hst : st = as.reverse ++ rest) (hW : (rest.map fun v => v.category).sum ≤ 8)
    (kk : EV G l M (d + 1) Q (pc + 3) lv (v :: rest) h kc ks) : EV G l M (d + 1) Q pc lv st h kc ks :=
  EV.callS w1 w2 w3 dg ct hn hst hW (Nat.zero_le _) (Nat.zero_le _) (fun o h' hq => by obtain ⟨rfl, rfl⟩ := hq; exact kk)
theorem EV.callSNr {v : Value} {host : String} (w1 : (M.1.cls, idx, M'.1, host) ∈ NBt) (w2 : Cond.static M'.1 ∈ TB) (w3 : CO M' n) (dg : decode M.2.1 pc = .ok (.invokestatic idx, 3)) (ct : CT G l M' d 0 0 as h (fun o h' => o = some v ∧ h' = h)) (hn : as.length = n) (hst : st = as.reverse ++ rest) (hW : (rest.map fun v => v.category).sum ≤ 8)
    (kk : EV G l M (d + 1) Q (pc + 3) lv (v :: rest) h kc ks) : EV G l M (d + 1) Q pc lv st h kc ks :=
  EV.callSN w1 w2 w3 dg ct hn hst hW (Nat.zero_le _) (Nat.zero_le _) (fun o h' hq => by obtain ⟨rfl, rfl⟩ := hq; exact kk)
theorem EV.callVr {v : Value} {ci : Nat} {fs : List Value} {r : vw_C} (w1 : Cond.methodLink M.1.cls idx M'.1 ∈ TB) (w2 : Cond.instanceMethod M'.1 ∈ TB) (w4 : Cond.selects r.1 M'.1 M'.1 ∈ TB) (hc : vwCl[ci]? = some r) (w3 : CO M' n) (dg : decode M.2.1 pc = .ok (.invokevirtual idx, 3)) (hb : h b = some (obj ci fs)) (ct : CT G l M' d 0 0 (.ref b :: as) h (fun o h' => o = some v ∧ h' = h)) (hn : as.length = n) (hst : st = as.reverse ++ .ref b :: rest) (hW : (rest.map fun v => v.category).sum ≤ 8)
    (kk : EV G l M (d + 1) Q (pc + 3) lv (v :: rest) h kc ks) : EV G l M (d + 1) Q pc lv st h kc ks :=
  EV.callV w1 w2 w4 hc w3 dg hb ct hn hst hW (Nat.zero_le _) (Nat.zero_le _) (fun o h' hq => by obtain ⟨rfl, rfl⟩ := hq; exact kk)
/-- System.arraycopy of ints -/
def cpI (f g : Nat → Int) (sp dp n : Nat) : Nat → Int := fun k => if dp ≤ k ∧ k < dp + n then f (sp + (k - dp)) else g k
theorem EV.copyI {a0 a n0 n1 : Nat} {f g : Nat → Int} {sp dp n : Int} (w1 : Cond.methodLink M.1.cls idx arraycopyName ∈ TB) (w2 : Cond.native arraycopyName ∈ TB) (w3 : Cond.static arraycopyName ∈ TB) (w4 : Cond.initialized "java/lang/System" ∈ TB) (dg : decode M.2.1 pc = .ok (.invokestatic idx, 3)) (ha0 : h a0 = some (arI G n0 f)) (ha : h a = some (arI G n1 g)) (i j k : Nat) (hi : sp = (i : Int)) (hj : dp = (j : Int)) (hk : n = (k : Int)) (hs : i + k ≤ n0 ∧ j + k ≤ n1 ∧ n0 < 1000 ∧ n1 < 1000) (hW : (rest.map fun v => v.category).sum ≤ 8)
    (kk : EV G l M (d + 1) Q (pc + 3) lv rest (hset h a (arI G n1 (cpI f g i j k))) kc ks) : EV G l M (d + 1) Q pc lv (.int (zI n) :: .int (zI dp) :: .ref a :: .int (zI sp) :: .ref a0 :: rest) h kc ks := by
  intro p e s m args below meth c A mc ms H locs cells slots ls hC hS hR hD hl h1 h2
  have hts := hC.2.2.2.2.2.2.1
  obtain ⟨ws, hP, hDw, hcm⟩ := hR
  obtain ⟨q0, he0⟩ := hcm a0 _ ha0
  obtain ⟨q1, he1⟩ := hcm a _ ha
  subst hi; subst hj; subst hk
  have hnf : nativeFrameWords "java/lang/System" "arraycopy" 5 ≤ 40 := by decide
  refine va_copyi hC.1 hC.2.1 (by rw [hC.2.2.1]; exact hl.1.symm) hC.2.2.2.2.1 (hts _ w1) (hts _ w2) (hts _ w3) (hts _ w4) hC.2.2.2.2.2.2.2.2.1.1 hP (hDw.weaken fun _ q _ x => hD q.1 x) hS q0 q1 0 0 he0 he1 rfl rfl rfl (by rw [zI_lt0 ⟨by omega, by omega⟩]; omega) (by rw [zI_lt0 ⟨by omega, by omega⟩]; omega) (by rw [zI_lt0 ⟨by omega, by omega⟩]; omega) (by rw [zI_clampN (by omega), zI_clampN (by omega)]; omega) (by rw [zI_clampN (by omega), zI_clampN (by omega)]; omega) (fun _ _ => rfl) (by show 1 ≤ d + 1; omega) (by show _ + (nativeFrameWords "java/lang/System" "arraycopy" 5 + 11) ≤ 64 * (d + 1); omega) dg (fun H1 locs1 hP1 hD1 hS1 => ?_)
  rw [zI_clampN (by omega), zI_clampN (by omega), zI_clampN (by omega)] at hP1
  have e1 : va_cpy (fun j => zI (f j)) (fun j => zI (g j)) i j k = fun q => zI (cpI f g i j k q) := by
    funext q
    unfold va_cpy cpI
    by_cases hq : j ≤ q ∧ q < j + k
    · rw [if_pos hq, if_pos hq]
    · rw [if_neg hq, if_neg hq]
  rw [e1] at hP1
  exact kk _ _ _ _ _ _ _ _ _ _ _ _ _ _ _ _ hC hS1 (Rl.set hDw hcm he1 hP1) (hD_set ha hD) hl h1 h2
theorem EV.tabIn {dflt lo hi : Int} {offs : Array Int} {len : Nat} {x off : Int} {t : Nat} (dg : decode M.2.1 pc = .ok (.tableswitch dflt lo hi offs, len)) (hr : inR x) (h1 : lo ≤ x ∧ x ≤ hi) (ho : offs[(x - lo).toNat]? = some off) (ht : (pc : Int) + off = (t : Int)) (k : EV G l M d Q t lv st h kc ks) : EV G l M d Q pc lv (.int (zI x) :: st) h kc ks :=
  EV.same (fun _ _ _ _ _ _ _ _ _ _ _ _ _ _ _ hx hb _ kk => lv_tableIn hx hb dg (by rw [zI_toInt hr]; omega) (by rw [zI_toInt hr]; omega) (by rw [zI_toInt hr]; exact ho) ht kk) k
theorem EV.tabOut {dflt lo hi : Int} {offs : Array Int} {len : Nat} {x : Int} {t : Nat} (dg : decode M.2.1 pc = .ok (.tableswitch dflt lo hi offs, len)) (hr : inR x) (h1 : x < lo ∨ hi < x) (ht : (pc : Int) + dflt = (t : Int)) (k : EV G l M d Q t lv st h kc ks) : EV G l M d Q pc lv (.int (zI x) :: st) h kc ks :=
  EV.same (fun _ _ _ _ _ _ _ _ _ _ _ _ _ _ _ hx hb _ kk => lv_tableOut hx hb dg (by rw [zI_toInt hr]; exact h1) ht kk) k
end EVC
